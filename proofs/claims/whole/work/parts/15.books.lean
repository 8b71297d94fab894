/-! ===== OrphanWave$Books.add(IIIII)I ===== -/
abbrev rm_X0_add : Room := { frames := 0, cells := 0, slots := 0, locals := 0 }
abbrev w_X0_add (a0 : Nat) (q_cells : Nat) (q_froms : Nat) (q_tos : Nat) (q_lows : Nat) (q_highs : Nat) (cA : Nat → ClassId) (s_count : Int32) (s_cells : Nat → Int32) (s_froms : Nat → Int32) (s_tos : Nat → Int32) (s_lows : Nat → Int32) (s_highs : Nat → Int32) : va_W := [(a0, .inr (0, [.ref q_cells, .ref q_froms, .ref q_tos, .ref q_lows, .ref q_highs, .int s_count])), (q_cells, .inl (cA 1, 6, .inl s_cells)), (q_froms, .inl (cA 1, 6, .inl s_froms)), (q_tos, .inl (cA 1, 6, .inl s_tos)), (q_lows, .inl (cA 1, 6, .inl s_lows)), (q_highs, .inl (cA 1, 6, .inl s_highs))]
theorem hn_X0_add_X0 : ∀ w ∈ u_ws RX0 TX0 6, w ∈ wsX0_add := by decide +kernel
theorem hw_X0_add_f9 : Cond.fieldLink RX0 9 "OrphanWave$Books" "cells" "[I" ∈ wsX0_add := by decide +kernel
theorem hw_X0_add_f27 : Cond.fieldLink RX0 27 "OrphanWave$Books" "count" "I" ∈ wsX0_add := by decide +kernel
theorem hw_X0_add_f15 : Cond.fieldLink RX0 15 "OrphanWave$Books" "froms" "[I" ∈ wsX0_add := by decide +kernel
theorem hw_X0_add_f18 : Cond.fieldLink RX0 18 "OrphanWave$Books" "tos" "[I" ∈ wsX0_add := by decide +kernel
theorem hw_X0_add_f21 : Cond.fieldLink RX0 21 "OrphanWave$Books" "lows" "[I" ∈ wsX0_add := by decide +kernel
theorem hw_X0_add_f24 : Cond.fieldLink RX0 24 "OrphanWave$Books" "highs" "[I" ∈ wsX0_add := by decide +kernel

def f_X0_add (x1 : Int32) (x2 : Int32) (x3 : Int32) (x4 : Int32) (x5 : Int32) (s_count : Int32) (s_cells : Nat → Int32) (s_froms : Nat → Int32) (s_tos : Nat → Int32) (s_lows : Nat → Int32) (s_highs : Nat → Int32) : Option ((Int32) × (Int32) × (Nat → Int32) × (Nat → Int32) × (Nat → Int32) × (Nat → Int32) × (Nat → Int32)) :=
  pgd (pin s_count 6) (
  plt (upd s_cells s_count.toNatClampNeg x1 : Nat → Int32) (fun f_2 => (
  plt (upd s_froms s_count.toNatClampNeg x2 : Nat → Int32) (fun f_3 => (
  plt (upd s_tos s_count.toNatClampNeg x3 : Nat → Int32) (fun f_4 => (
  plt (upd s_lows s_count.toNatClampNeg x4 : Nat → Int32) (fun f_5 => (
  plt (upd s_highs s_count.toNatClampNeg x5 : Nat → Int32) (fun f_6 => (
  plt ((s_count + (1 : Int32)) : Int32) (fun count_7 => (
  some (s_count, count_7, f_2, f_3, f_4, f_5, f_6))))))))))))))

set_option maxRecDepth 100000 in
set_option maxHeartbeats 4000000 in
theorem ct_X0_add (l : Launch) (D : va_G) (cA : Nat → ClassId) (x1 : Int32) (x2 : Int32) (x3 : Int32) (x4 : Int32) (x5 : Int32) (a0 : Nat) (q_cells : Nat) (q_froms : Nat) (q_tos : Nat) (q_lows : Nat) (q_highs : Nat) (s_count : Int32) (s_cells : Nat → Int32) (s_froms : Nat → Int32) (s_tos : Nat → Int32) (s_lows : Nat → Int32) (s_highs : Nat → Int32) (o_r : Int32) (o_count : Int32) (o_cells : Nat → Int32) (o_froms : Nat → Int32) (o_tos : Nat → Int32) (o_lows : Nat → Int32) (o_highs : Nat → Int32) (hf : f_X0_add x1 x2 x3 x4 x5 s_count s_cells s_froms s_tos s_lows s_highs = some (o_r, o_count, o_cells, o_froms, o_tos, o_lows, o_highs)) : CT l yX0_add wsX0_add rm_X0_add D cA [.ref a0, .int x1, .int x2, .int x3, .int x4, .int x5] (w_X0_add a0 q_cells q_froms q_tos q_lows q_highs cA s_count s_cells s_froms s_tos s_lows s_highs) (w_X0_add a0 q_cells q_froms q_tos q_lows q_highs cA o_count o_cells o_froms o_tos o_lows o_highs) (some (.int o_r)) := by
  refine CT.ofW (cc := cX0_add) (maxL := 6) (ret := (some .int)) (by decide +kernel) rfl (Nat.le_of_ble_eq_true rfl) ?_
  intro p e s m below meth c A C0 hA hP hD ls hl
  have C0 : MX p s m [.ref a0, .int x1, .int x2, .int x3, .int x4, .int x5].toArray meth c cX0_add 6 wsX0_add RX0 (some .int) D cA := C0
  have hl : lv_has ls 6 [(0, .ref a0), (1, .int x1), (2, .int x2), (3, .int x3), (4, .int x4), (5, .int x5)] := hl
  obtain ⟨hx, hb, hml, hown, hts, hr, hlocks, hX⟩ := id C0
  have hK := hX.1
  have hN := hX.2
  have hS : va_S A s.heap s.heap [] := va_S.rf
  unfold f_X0_add at hf
  refine lv_aload_n hx hb dX0_add_0 rfl (lv_at hl 0 rfl) ?_
  refine va_get (D := D) (ci := 0) (v := .ref q_cells) (C := RX0) (T := TX0) (N := 6) hx hb hts hn_X0_add_X0 hown hK hP 0 rfl rfl 0 (by decide) (hts _ hw_X0_add_f9) (fun _ h9 => h9) rfl dX0_add_1 ?_
  refine lv_aload_n hx hb dX0_add_4 rfl (lv_at hl 0 rfl) ?_
  refine va_get (D := D) (ci := 0) (v := .int s_count) (C := RX0) (T := TX0) (N := 6) hx hb hts hn_X0_add_X0 hown hK hP 0 rfl rfl 5 (by decide) (hts _ hw_X0_add_f27) (fun _ h9 => h9) rfl dX0_add_5 ?_
  refine lv_iload_n hx hb dX0_add_8 rfl (lv_at hl 1 rfl) ?_
  obtain ⟨g_1, hf⟩ := pgd_e hf
  refine va_iast hx hb hK hP hD hS 1 1 rfl rfl g_1 dX0_add_9 (fun H locs hP hD hS => ?_)
  obtain ⟨f_2, ef_2⟩ : ∃ z : Nat → Int32, z = upd s_cells s_count.toNatClampNeg x1 := ⟨_, rfl⟩
  have hf := plt_e ef_2 hf
  have hP : va_P D vwCl (w_X0_add a0 q_cells q_froms q_tos q_lows q_highs cA s_count f_2 s_froms s_tos s_lows s_highs) H := by rw [ef_2]; exact hP
  have hD : va_D A (w_X0_add a0 q_cells q_froms q_tos q_lows q_highs cA s_count f_2 s_froms s_tos s_lows s_highs) := by rw [ef_2]; exact hD
  refine lv_aload_n hx hb dX0_add_10 rfl (lv_at hl 0 rfl) ?_
  refine va_get (D := D) (ci := 0) (v := .ref q_froms) (C := RX0) (T := TX0) (N := 6) hx hb hts hn_X0_add_X0 hown hK hP 0 rfl rfl 1 (by decide) (hts _ hw_X0_add_f15) (fun _ h9 => h9) rfl dX0_add_11 ?_
  refine lv_aload_n hx hb dX0_add_14 rfl (lv_at hl 0 rfl) ?_
  refine va_get (D := D) (ci := 0) (v := .int s_count) (C := RX0) (T := TX0) (N := 6) hx hb hts hn_X0_add_X0 hown hK hP 0 rfl rfl 5 (by decide) (hts _ hw_X0_add_f27) (fun _ h9 => h9) rfl dX0_add_15 ?_
  refine lv_iload_n hx hb dX0_add_18 rfl (lv_at hl 2 rfl) ?_
  refine va_iast hx hb hK hP hD hS 2 1 rfl rfl g_1 dX0_add_19 (fun H locs hP hD hS => ?_)
  obtain ⟨f_3, ef_3⟩ : ∃ z : Nat → Int32, z = upd s_froms s_count.toNatClampNeg x2 := ⟨_, rfl⟩
  have hf := plt_e ef_3 hf
  have hP : va_P D vwCl (w_X0_add a0 q_cells q_froms q_tos q_lows q_highs cA s_count f_2 f_3 s_tos s_lows s_highs) H := by rw [ef_3]; exact hP
  have hD : va_D A (w_X0_add a0 q_cells q_froms q_tos q_lows q_highs cA s_count f_2 f_3 s_tos s_lows s_highs) := by rw [ef_3]; exact hD
  refine lv_aload_n hx hb dX0_add_20 rfl (lv_at hl 0 rfl) ?_
  refine va_get (D := D) (ci := 0) (v := .ref q_tos) (C := RX0) (T := TX0) (N := 6) hx hb hts hn_X0_add_X0 hown hK hP 0 rfl rfl 2 (by decide) (hts _ hw_X0_add_f18) (fun _ h9 => h9) rfl dX0_add_21 ?_
  refine lv_aload_n hx hb dX0_add_24 rfl (lv_at hl 0 rfl) ?_
  refine va_get (D := D) (ci := 0) (v := .int s_count) (C := RX0) (T := TX0) (N := 6) hx hb hts hn_X0_add_X0 hown hK hP 0 rfl rfl 5 (by decide) (hts _ hw_X0_add_f27) (fun _ h9 => h9) rfl dX0_add_25 ?_
  refine lv_iload_n hx hb dX0_add_28 rfl (lv_at hl 3 rfl) ?_
  refine va_iast hx hb hK hP hD hS 3 1 rfl rfl g_1 dX0_add_29 (fun H locs hP hD hS => ?_)
  obtain ⟨f_4, ef_4⟩ : ∃ z : Nat → Int32, z = upd s_tos s_count.toNatClampNeg x3 := ⟨_, rfl⟩
  have hf := plt_e ef_4 hf
  have hP : va_P D vwCl (w_X0_add a0 q_cells q_froms q_tos q_lows q_highs cA s_count f_2 f_3 f_4 s_lows s_highs) H := by rw [ef_4]; exact hP
  have hD : va_D A (w_X0_add a0 q_cells q_froms q_tos q_lows q_highs cA s_count f_2 f_3 f_4 s_lows s_highs) := by rw [ef_4]; exact hD
  refine lv_aload_n hx hb dX0_add_30 rfl (lv_at hl 0 rfl) ?_
  refine va_get (D := D) (ci := 0) (v := .ref q_lows) (C := RX0) (T := TX0) (N := 6) hx hb hts hn_X0_add_X0 hown hK hP 0 rfl rfl 3 (by decide) (hts _ hw_X0_add_f21) (fun _ h9 => h9) rfl dX0_add_31 ?_
  refine lv_aload_n hx hb dX0_add_34 rfl (lv_at hl 0 rfl) ?_
  refine va_get (D := D) (ci := 0) (v := .int s_count) (C := RX0) (T := TX0) (N := 6) hx hb hts hn_X0_add_X0 hown hK hP 0 rfl rfl 5 (by decide) (hts _ hw_X0_add_f27) (fun _ h9 => h9) rfl dX0_add_35 ?_
  refine lv_iload hx hb dX0_add_38 (lv_at hl 4 rfl) ?_
  refine va_iast hx hb hK hP hD hS 4 1 rfl rfl g_1 dX0_add_40 (fun H locs hP hD hS => ?_)
  obtain ⟨f_5, ef_5⟩ : ∃ z : Nat → Int32, z = upd s_lows s_count.toNatClampNeg x4 := ⟨_, rfl⟩
  have hf := plt_e ef_5 hf
  have hP : va_P D vwCl (w_X0_add a0 q_cells q_froms q_tos q_lows q_highs cA s_count f_2 f_3 f_4 f_5 s_highs) H := by rw [ef_5]; exact hP
  have hD : va_D A (w_X0_add a0 q_cells q_froms q_tos q_lows q_highs cA s_count f_2 f_3 f_4 f_5 s_highs) := by rw [ef_5]; exact hD
  refine lv_aload_n hx hb dX0_add_41 rfl (lv_at hl 0 rfl) ?_
  refine va_get (D := D) (ci := 0) (v := .ref q_highs) (C := RX0) (T := TX0) (N := 6) hx hb hts hn_X0_add_X0 hown hK hP 0 rfl rfl 4 (by decide) (hts _ hw_X0_add_f24) (fun _ h9 => h9) rfl dX0_add_42 ?_
  refine lv_aload_n hx hb dX0_add_45 rfl (lv_at hl 0 rfl) ?_
  refine va_get (D := D) (ci := 0) (v := .int s_count) (C := RX0) (T := TX0) (N := 6) hx hb hts hn_X0_add_X0 hown hK hP 0 rfl rfl 5 (by decide) (hts _ hw_X0_add_f27) (fun _ h9 => h9) rfl dX0_add_46 ?_
  refine lv_iload hx hb dX0_add_49 (lv_at hl 5 rfl) ?_
  refine va_iast hx hb hK hP hD hS 5 1 rfl rfl g_1 dX0_add_51 (fun H locs hP hD hS => ?_)
  obtain ⟨f_6, ef_6⟩ : ∃ z : Nat → Int32, z = upd s_highs s_count.toNatClampNeg x5 := ⟨_, rfl⟩
  have hf := plt_e ef_6 hf
  have hP : va_P D vwCl (w_X0_add a0 q_cells q_froms q_tos q_lows q_highs cA s_count f_2 f_3 f_4 f_5 f_6) H := by rw [ef_6]; exact hP
  have hD : va_D A (w_X0_add a0 q_cells q_froms q_tos q_lows q_highs cA s_count f_2 f_3 f_4 f_5 f_6) := by rw [ef_6]; exact hD
  refine lv_aload_n hx hb dX0_add_52 rfl (lv_at hl 0 rfl) ?_
  refine lv_dup hx hb dX0_add_53 rfl ?_
  refine va_get (D := D) (ci := 0) (v := .int s_count) (C := RX0) (T := TX0) (N := 6) hx hb hts hn_X0_add_X0 hown hK hP 0 rfl rfl 5 (by decide) (hts _ hw_X0_add_f27) (fun _ h9 => h9) rfl dX0_add_54 ?_
  refine lv_dup_x1 hx hb dX0_add_57 rfl rfl ?_
  refine lv_iconst (v := (1 : Int32)) hx hb dX0_add_58 (by decide) ?_
  refine lv_iadd hx hb dX0_add_59 ?_
  refine lv_topi (fun count_7 ecount_7 => ?_)
  have hf := plt_e ecount_7 hf
  refine va_put (D := D) (ci := 0) (v := .int count_7) (ty := .int) (C := RX0) (T := TX0) (N := 6) hx hb hts hn_X0_add_X0 tyX0 tyX0_ok nmX0 hown hK hP hD hS 0 rfl rfl 5 (by decide) (hts _ hw_X0_add_f27) (fun _ h9 => h9) rfl (by decide +kernel) rfl rfl (Nat.le_of_ble_eq_true rfl) dX0_add_60 (fun H locs hP hD hS => ?_)
  have hP : va_P D vwCl (w_X0_add a0 q_cells q_froms q_tos q_lows q_highs cA count_7 f_2 f_3 f_4 f_5 f_6) H := hP
  have hD : va_D A (w_X0_add a0 q_cells q_froms q_tos q_lows q_highs cA count_7 f_2 f_3 f_4 f_5 f_6) := hD
  obtain ⟨rfl, rfl, rfl, rfl, rfl, rfl, rfl⟩ := pe7 hf
  exact m_iret hx hb hr hlocks hP hS dX0_add_63

/-! ===== OrphanWave$Books.become(LOrphanWave$Books;)V ===== -/
abbrev rm_X0_become : Room := { frames := 1, cells := 0, slots := 0, locals := 18 }
abbrev w_X0_become (a0 : Nat) (b1 : Nat) (b1_cells : Nat) (q_cells : Nat) (b1_froms : Nat) (q_froms : Nat) (b1_tos : Nat) (q_tos : Nat) (b1_lows : Nat) (q_lows : Nat) (b1_highs : Nat) (q_highs : Nat) (cA : Nat → ClassId) (s_count : Int32) (s_b1_count : Int32) (s_b1_cells : Nat → Int32) (s_cells : Nat → Int32) (s_b1_froms : Nat → Int32) (s_froms : Nat → Int32) (s_b1_tos : Nat → Int32) (s_tos : Nat → Int32) (s_b1_lows : Nat → Int32) (s_lows : Nat → Int32) (s_b1_highs : Nat → Int32) (s_highs : Nat → Int32) : va_W := [(a0, .inr (0, [.ref q_cells, .ref q_froms, .ref q_tos, .ref q_lows, .ref q_highs, .int s_count])), (b1, .inr (0, [.ref b1_cells, .ref b1_froms, .ref b1_tos, .ref b1_lows, .ref b1_highs, .int s_b1_count])), (b1_cells, .inl (cA 1, 6, .inl s_b1_cells)), (q_cells, .inl (cA 1, 6, .inl s_cells)), (b1_froms, .inl (cA 1, 6, .inl s_b1_froms)), (q_froms, .inl (cA 1, 6, .inl s_froms)), (b1_tos, .inl (cA 1, 6, .inl s_b1_tos)), (q_tos, .inl (cA 1, 6, .inl s_tos)), (b1_lows, .inl (cA 1, 6, .inl s_b1_lows)), (q_lows, .inl (cA 1, 6, .inl s_lows)), (b1_highs, .inl (cA 1, 6, .inl s_b1_highs)), (q_highs, .inl (cA 1, 6, .inl s_highs))]
theorem hn_X0_become_X0 : ∀ w ∈ u_ws RX0 TX0 6, w ∈ wsX0_become := by decide +kernel
theorem hw_X0_become_f9 : Cond.fieldLink RX0 9 "OrphanWave$Books" "cells" "[I" ∈ wsX0_become := by decide +kernel
theorem hw_X0_become_f15 : Cond.fieldLink RX0 15 "OrphanWave$Books" "froms" "[I" ∈ wsX0_become := by decide +kernel
theorem hw_X0_become_f18 : Cond.fieldLink RX0 18 "OrphanWave$Books" "tos" "[I" ∈ wsX0_become := by decide +kernel
theorem hw_X0_become_f21 : Cond.fieldLink RX0 21 "OrphanWave$Books" "lows" "[I" ∈ wsX0_become := by decide +kernel
theorem hw_X0_become_f24 : Cond.fieldLink RX0 24 "OrphanWave$Books" "highs" "[I" ∈ wsX0_become := by decide +kernel
theorem hw_X0_become_f27 : Cond.fieldLink RX0 27 "OrphanWave$Books" "count" "I" ∈ wsX0_become := by decide +kernel
theorem hw_X0_become_m31 : Cond.methodLink RX0 31 arraycopyName ∈ wsX0_become := by decide +kernel
theorem hw_X0_become_nac : Cond.native arraycopyName ∈ wsX0_become := by decide +kernel
theorem hw_X0_become_sac : Cond.static arraycopyName ∈ wsX0_become := by decide +kernel
theorem hw_X0_become_isys : Cond.initialized "java/lang/System" ∈ wsX0_become := by decide +kernel

def f_X0_become (s_count : Int32) (s_b1_count : Int32) (s_b1_cells : Nat → Int32) (s_cells : Nat → Int32) (s_b1_froms : Nat → Int32) (s_froms : Nat → Int32) (s_b1_tos : Nat → Int32) (s_tos : Nat → Int32) (s_b1_lows : Nat → Int32) (s_lows : Nat → Int32) (s_b1_highs : Nat → Int32) (s_highs : Nat → Int32) : Option ((Int32) × (Nat → Int32) × (Nat → Int32) × (Nat → Int32) × (Nat → Int32) × (Nat → Int32)) :=
  plt (va_cpy s_b1_cells s_cells (0 : Int32).toNatClampNeg (0 : Int32).toNatClampNeg (6 : Int32).toNatClampNeg : Nat → Int32) (fun f_1 => (
  plt (va_cpy s_b1_froms s_froms (0 : Int32).toNatClampNeg (0 : Int32).toNatClampNeg (6 : Int32).toNatClampNeg : Nat → Int32) (fun f_2 => (
  plt (va_cpy s_b1_tos s_tos (0 : Int32).toNatClampNeg (0 : Int32).toNatClampNeg (6 : Int32).toNatClampNeg : Nat → Int32) (fun f_3 => (
  plt (va_cpy s_b1_lows s_lows (0 : Int32).toNatClampNeg (0 : Int32).toNatClampNeg (6 : Int32).toNatClampNeg : Nat → Int32) (fun f_4 => (
  plt (va_cpy s_b1_highs s_highs (0 : Int32).toNatClampNeg (0 : Int32).toNatClampNeg (6 : Int32).toNatClampNeg : Nat → Int32) (fun f_5 => (
  some (s_b1_count, f_1, f_2, f_3, f_4, f_5)))))))))))

set_option maxRecDepth 100000 in
set_option maxHeartbeats 4000000 in
theorem ct_X0_become (l : Launch) (D : va_G) (cA : Nat → ClassId) (a0 : Nat) (b1 : Nat) (b1_cells : Nat) (q_cells : Nat) (b1_froms : Nat) (q_froms : Nat) (b1_tos : Nat) (q_tos : Nat) (b1_lows : Nat) (q_lows : Nat) (b1_highs : Nat) (q_highs : Nat) (s_count : Int32) (s_b1_count : Int32) (s_b1_cells : Nat → Int32) (s_cells : Nat → Int32) (s_b1_froms : Nat → Int32) (s_froms : Nat → Int32) (s_b1_tos : Nat → Int32) (s_tos : Nat → Int32) (s_b1_lows : Nat → Int32) (s_lows : Nat → Int32) (s_b1_highs : Nat → Int32) (s_highs : Nat → Int32) (o_count : Int32) (o_cells : Nat → Int32) (o_froms : Nat → Int32) (o_tos : Nat → Int32) (o_lows : Nat → Int32) (o_highs : Nat → Int32) (hf : f_X0_become s_count s_b1_count s_b1_cells s_cells s_b1_froms s_froms s_b1_tos s_tos s_b1_lows s_lows s_b1_highs s_highs = some (o_count, o_cells, o_froms, o_tos, o_lows, o_highs)) : CT l yX0_become wsX0_become rm_X0_become D cA [.ref a0, .ref b1] (w_X0_become a0 b1 b1_cells q_cells b1_froms q_froms b1_tos q_tos b1_lows q_lows b1_highs q_highs cA s_count s_b1_count s_b1_cells s_cells s_b1_froms s_froms s_b1_tos s_tos s_b1_lows s_lows s_b1_highs s_highs) (w_X0_become a0 b1 b1_cells q_cells b1_froms q_froms b1_tos q_tos b1_lows q_lows b1_highs q_highs cA o_count s_b1_count s_b1_cells o_cells s_b1_froms o_froms s_b1_tos o_tos s_b1_lows o_lows s_b1_highs o_highs) none := by
  refine CT.ofW (cc := cX0_become) (maxL := 2) (ret := none) (by decide +kernel) rfl (Nat.le_of_ble_eq_true rfl) ?_
  intro p e s m below meth c A C0 hA hP hD ls hl
  have C0 : MX p s m [.ref a0, .ref b1].toArray meth c cX0_become 2 wsX0_become RX0 none D cA := C0
  have hl : lv_has ls 2 [(0, .ref a0), (1, .ref b1)] := hl
  obtain ⟨hx, hb, hml, hown, hts, hr, hlocks, hX⟩ := id C0
  have hK := hX.1
  have hN := hX.2
  have hS : va_S A s.heap s.heap [] := va_S.rf
  unfold f_X0_become at hf
  refine lv_aload_n hx hb dX0_become_0 rfl (lv_at hl 1 rfl) ?_
  refine va_get (D := D) (ci := 0) (v := .ref b1_cells) (C := RX0) (T := TX0) (N := 6) hx hb hts hn_X0_become_X0 hown hK hP 1 rfl rfl 0 (by decide) (hts _ hw_X0_become_f9) (fun _ h9 => h9) rfl dX0_become_1 ?_
  refine lv_iconst (v := (0 : Int32)) hx hb dX0_become_4 (by decide) ?_
  refine lv_aload_n hx hb dX0_become_5 rfl (lv_at hl 0 rfl) ?_
  refine va_get (D := D) (ci := 0) (v := .ref q_cells) (C := RX0) (T := TX0) (N := 6) hx hb hts hn_X0_become_X0 hown hK hP 0 rfl rfl 0 (by decide) (hts _ hw_X0_become_f9) (fun _ h9 => h9) rfl dX0_become_6 ?_
  refine lv_iconst (v := (0 : Int32)) hx hb dX0_become_9 (by decide) ?_
  refine lv_bipush (v := (6 : Int32)) hx hb dX0_become_10 (by decide) ?_
  refine va_copyi (ty := .int) hx hb (hml.trans hl.1.symm) hown (hts _ hw_X0_become_m31) (hts _ hw_X0_become_nac) (hts _ hw_X0_become_sac) (hts _ hw_X0_become_isys) hK hP hD hS 2 3 1 1 rfl rfl rfl rfl rfl (by decide) (by decide) (by decide) (by decide +kernel) (by decide +kernel) (fun _ _ => rfl) (Nat.le_of_ble_eq_true rfl) (Nat.le_of_ble_eq_true rfl) dX0_become_12 (fun H locs hP hD hS => ?_)
  obtain ⟨f_1, ef_1⟩ : ∃ z : Nat → Int32, z = va_cpy s_b1_cells s_cells (0 : Int32).toNatClampNeg (0 : Int32).toNatClampNeg (6 : Int32).toNatClampNeg := ⟨_, rfl⟩
  have hf := plt_e ef_1 hf
  have hP : va_P D vwCl (w_X0_become a0 b1 b1_cells q_cells b1_froms q_froms b1_tos q_tos b1_lows q_lows b1_highs q_highs cA s_count s_b1_count s_b1_cells f_1 s_b1_froms s_froms s_b1_tos s_tos s_b1_lows s_lows s_b1_highs s_highs) H := by rw [ef_1]; exact hP
  have hD : va_D A (w_X0_become a0 b1 b1_cells q_cells b1_froms q_froms b1_tos q_tos b1_lows q_lows b1_highs q_highs cA s_count s_b1_count s_b1_cells f_1 s_b1_froms s_froms s_b1_tos s_tos s_b1_lows s_lows s_b1_highs s_highs) := by rw [ef_1]; exact hD
  refine lv_aload_n hx hb dX0_become_15 rfl (lv_at hl 1 rfl) ?_
  refine va_get (D := D) (ci := 0) (v := .ref b1_froms) (C := RX0) (T := TX0) (N := 6) hx hb hts hn_X0_become_X0 hown hK hP 1 rfl rfl 1 (by decide) (hts _ hw_X0_become_f15) (fun _ h9 => h9) rfl dX0_become_16 ?_
  refine lv_iconst (v := (0 : Int32)) hx hb dX0_become_19 (by decide) ?_
  refine lv_aload_n hx hb dX0_become_20 rfl (lv_at hl 0 rfl) ?_
  refine va_get (D := D) (ci := 0) (v := .ref q_froms) (C := RX0) (T := TX0) (N := 6) hx hb hts hn_X0_become_X0 hown hK hP 0 rfl rfl 1 (by decide) (hts _ hw_X0_become_f15) (fun _ h9 => h9) rfl dX0_become_21 ?_
  refine lv_iconst (v := (0 : Int32)) hx hb dX0_become_24 (by decide) ?_
  refine lv_bipush (v := (6 : Int32)) hx hb dX0_become_25 (by decide) ?_
  refine va_copyi (ty := .int) hx hb (hml.trans hl.1.symm) hown (hts _ hw_X0_become_m31) (hts _ hw_X0_become_nac) (hts _ hw_X0_become_sac) (hts _ hw_X0_become_isys) hK hP hD hS 4 5 1 1 rfl rfl rfl rfl rfl (by decide) (by decide) (by decide) (by decide +kernel) (by decide +kernel) (fun _ _ => rfl) (Nat.le_of_ble_eq_true rfl) (Nat.le_of_ble_eq_true rfl) dX0_become_27 (fun H locs hP hD hS => ?_)
  obtain ⟨f_2, ef_2⟩ : ∃ z : Nat → Int32, z = va_cpy s_b1_froms s_froms (0 : Int32).toNatClampNeg (0 : Int32).toNatClampNeg (6 : Int32).toNatClampNeg := ⟨_, rfl⟩
  have hf := plt_e ef_2 hf
  have hP : va_P D vwCl (w_X0_become a0 b1 b1_cells q_cells b1_froms q_froms b1_tos q_tos b1_lows q_lows b1_highs q_highs cA s_count s_b1_count s_b1_cells f_1 s_b1_froms f_2 s_b1_tos s_tos s_b1_lows s_lows s_b1_highs s_highs) H := by rw [ef_2]; exact hP
  have hD : va_D A (w_X0_become a0 b1 b1_cells q_cells b1_froms q_froms b1_tos q_tos b1_lows q_lows b1_highs q_highs cA s_count s_b1_count s_b1_cells f_1 s_b1_froms f_2 s_b1_tos s_tos s_b1_lows s_lows s_b1_highs s_highs) := by rw [ef_2]; exact hD
  refine lv_aload_n hx hb dX0_become_30 rfl (lv_at hl 1 rfl) ?_
  refine va_get (D := D) (ci := 0) (v := .ref b1_tos) (C := RX0) (T := TX0) (N := 6) hx hb hts hn_X0_become_X0 hown hK hP 1 rfl rfl 2 (by decide) (hts _ hw_X0_become_f18) (fun _ h9 => h9) rfl dX0_become_31 ?_
  refine lv_iconst (v := (0 : Int32)) hx hb dX0_become_34 (by decide) ?_
  refine lv_aload_n hx hb dX0_become_35 rfl (lv_at hl 0 rfl) ?_
  refine va_get (D := D) (ci := 0) (v := .ref q_tos) (C := RX0) (T := TX0) (N := 6) hx hb hts hn_X0_become_X0 hown hK hP 0 rfl rfl 2 (by decide) (hts _ hw_X0_become_f18) (fun _ h9 => h9) rfl dX0_become_36 ?_
  refine lv_iconst (v := (0 : Int32)) hx hb dX0_become_39 (by decide) ?_
  refine lv_bipush (v := (6 : Int32)) hx hb dX0_become_40 (by decide) ?_
  refine va_copyi (ty := .int) hx hb (hml.trans hl.1.symm) hown (hts _ hw_X0_become_m31) (hts _ hw_X0_become_nac) (hts _ hw_X0_become_sac) (hts _ hw_X0_become_isys) hK hP hD hS 6 7 1 1 rfl rfl rfl rfl rfl (by decide) (by decide) (by decide) (by decide +kernel) (by decide +kernel) (fun _ _ => rfl) (Nat.le_of_ble_eq_true rfl) (Nat.le_of_ble_eq_true rfl) dX0_become_42 (fun H locs hP hD hS => ?_)
  obtain ⟨f_3, ef_3⟩ : ∃ z : Nat → Int32, z = va_cpy s_b1_tos s_tos (0 : Int32).toNatClampNeg (0 : Int32).toNatClampNeg (6 : Int32).toNatClampNeg := ⟨_, rfl⟩
  have hf := plt_e ef_3 hf
  have hP : va_P D vwCl (w_X0_become a0 b1 b1_cells q_cells b1_froms q_froms b1_tos q_tos b1_lows q_lows b1_highs q_highs cA s_count s_b1_count s_b1_cells f_1 s_b1_froms f_2 s_b1_tos f_3 s_b1_lows s_lows s_b1_highs s_highs) H := by rw [ef_3]; exact hP
  have hD : va_D A (w_X0_become a0 b1 b1_cells q_cells b1_froms q_froms b1_tos q_tos b1_lows q_lows b1_highs q_highs cA s_count s_b1_count s_b1_cells f_1 s_b1_froms f_2 s_b1_tos f_3 s_b1_lows s_lows s_b1_highs s_highs) := by rw [ef_3]; exact hD
  refine lv_aload_n hx hb dX0_become_45 rfl (lv_at hl 1 rfl) ?_
  refine va_get (D := D) (ci := 0) (v := .ref b1_lows) (C := RX0) (T := TX0) (N := 6) hx hb hts hn_X0_become_X0 hown hK hP 1 rfl rfl 3 (by decide) (hts _ hw_X0_become_f21) (fun _ h9 => h9) rfl dX0_become_46 ?_
  refine lv_iconst (v := (0 : Int32)) hx hb dX0_become_49 (by decide) ?_
  refine lv_aload_n hx hb dX0_become_50 rfl (lv_at hl 0 rfl) ?_
  refine va_get (D := D) (ci := 0) (v := .ref q_lows) (C := RX0) (T := TX0) (N := 6) hx hb hts hn_X0_become_X0 hown hK hP 0 rfl rfl 3 (by decide) (hts _ hw_X0_become_f21) (fun _ h9 => h9) rfl dX0_become_51 ?_
  refine lv_iconst (v := (0 : Int32)) hx hb dX0_become_54 (by decide) ?_
  refine lv_bipush (v := (6 : Int32)) hx hb dX0_become_55 (by decide) ?_
  refine va_copyi (ty := .int) hx hb (hml.trans hl.1.symm) hown (hts _ hw_X0_become_m31) (hts _ hw_X0_become_nac) (hts _ hw_X0_become_sac) (hts _ hw_X0_become_isys) hK hP hD hS 8 9 1 1 rfl rfl rfl rfl rfl (by decide) (by decide) (by decide) (by decide +kernel) (by decide +kernel) (fun _ _ => rfl) (Nat.le_of_ble_eq_true rfl) (Nat.le_of_ble_eq_true rfl) dX0_become_57 (fun H locs hP hD hS => ?_)
  obtain ⟨f_4, ef_4⟩ : ∃ z : Nat → Int32, z = va_cpy s_b1_lows s_lows (0 : Int32).toNatClampNeg (0 : Int32).toNatClampNeg (6 : Int32).toNatClampNeg := ⟨_, rfl⟩
  have hf := plt_e ef_4 hf
  have hP : va_P D vwCl (w_X0_become a0 b1 b1_cells q_cells b1_froms q_froms b1_tos q_tos b1_lows q_lows b1_highs q_highs cA s_count s_b1_count s_b1_cells f_1 s_b1_froms f_2 s_b1_tos f_3 s_b1_lows f_4 s_b1_highs s_highs) H := by rw [ef_4]; exact hP
  have hD : va_D A (w_X0_become a0 b1 b1_cells q_cells b1_froms q_froms b1_tos q_tos b1_lows q_lows b1_highs q_highs cA s_count s_b1_count s_b1_cells f_1 s_b1_froms f_2 s_b1_tos f_3 s_b1_lows f_4 s_b1_highs s_highs) := by rw [ef_4]; exact hD
  refine lv_aload_n hx hb dX0_become_60 rfl (lv_at hl 1 rfl) ?_
  refine va_get (D := D) (ci := 0) (v := .ref b1_highs) (C := RX0) (T := TX0) (N := 6) hx hb hts hn_X0_become_X0 hown hK hP 1 rfl rfl 4 (by decide) (hts _ hw_X0_become_f24) (fun _ h9 => h9) rfl dX0_become_61 ?_
  refine lv_iconst (v := (0 : Int32)) hx hb dX0_become_64 (by decide) ?_
  refine lv_aload_n hx hb dX0_become_65 rfl (lv_at hl 0 rfl) ?_
  refine va_get (D := D) (ci := 0) (v := .ref q_highs) (C := RX0) (T := TX0) (N := 6) hx hb hts hn_X0_become_X0 hown hK hP 0 rfl rfl 4 (by decide) (hts _ hw_X0_become_f24) (fun _ h9 => h9) rfl dX0_become_66 ?_
  refine lv_iconst (v := (0 : Int32)) hx hb dX0_become_69 (by decide) ?_
  refine lv_bipush (v := (6 : Int32)) hx hb dX0_become_70 (by decide) ?_
  refine va_copyi (ty := .int) hx hb (hml.trans hl.1.symm) hown (hts _ hw_X0_become_m31) (hts _ hw_X0_become_nac) (hts _ hw_X0_become_sac) (hts _ hw_X0_become_isys) hK hP hD hS 10 11 1 1 rfl rfl rfl rfl rfl (by decide) (by decide) (by decide) (by decide +kernel) (by decide +kernel) (fun _ _ => rfl) (Nat.le_of_ble_eq_true rfl) (Nat.le_of_ble_eq_true rfl) dX0_become_72 (fun H locs hP hD hS => ?_)
  obtain ⟨f_5, ef_5⟩ : ∃ z : Nat → Int32, z = va_cpy s_b1_highs s_highs (0 : Int32).toNatClampNeg (0 : Int32).toNatClampNeg (6 : Int32).toNatClampNeg := ⟨_, rfl⟩
  have hf := plt_e ef_5 hf
  have hP : va_P D vwCl (w_X0_become a0 b1 b1_cells q_cells b1_froms q_froms b1_tos q_tos b1_lows q_lows b1_highs q_highs cA s_count s_b1_count s_b1_cells f_1 s_b1_froms f_2 s_b1_tos f_3 s_b1_lows f_4 s_b1_highs f_5) H := by rw [ef_5]; exact hP
  have hD : va_D A (w_X0_become a0 b1 b1_cells q_cells b1_froms q_froms b1_tos q_tos b1_lows q_lows b1_highs q_highs cA s_count s_b1_count s_b1_cells f_1 s_b1_froms f_2 s_b1_tos f_3 s_b1_lows f_4 s_b1_highs f_5) := by rw [ef_5]; exact hD
  refine lv_aload_n hx hb dX0_become_75 rfl (lv_at hl 0 rfl) ?_
  refine lv_aload_n hx hb dX0_become_76 rfl (lv_at hl 1 rfl) ?_
  refine va_get (D := D) (ci := 0) (v := .int s_b1_count) (C := RX0) (T := TX0) (N := 6) hx hb hts hn_X0_become_X0 hown hK hP 1 rfl rfl 5 (by decide) (hts _ hw_X0_become_f27) (fun _ h9 => h9) rfl dX0_become_77 ?_
  refine va_put (D := D) (ci := 0) (v := .int s_b1_count) (ty := .int) (C := RX0) (T := TX0) (N := 6) hx hb hts hn_X0_become_X0 tyX0 tyX0_ok nmX0 hown hK hP hD hS 0 rfl rfl 5 (by decide) (hts _ hw_X0_become_f27) (fun _ h9 => h9) rfl (by decide +kernel) rfl rfl (Nat.le_of_ble_eq_true rfl) dX0_become_80 (fun H locs hP hD hS => ?_)
  have hP : va_P D vwCl (w_X0_become a0 b1 b1_cells q_cells b1_froms q_froms b1_tos q_tos b1_lows q_lows b1_highs q_highs cA s_b1_count s_b1_count s_b1_cells f_1 s_b1_froms f_2 s_b1_tos f_3 s_b1_lows f_4 s_b1_highs f_5) H := hP
  have hD : va_D A (w_X0_become a0 b1 b1_cells q_cells b1_froms q_froms b1_tos q_tos b1_lows q_lows b1_highs q_highs cA s_b1_count s_b1_count s_b1_cells f_1 s_b1_froms f_2 s_b1_tos f_3 s_b1_lows f_4 s_b1_highs f_5) := hD
  obtain ⟨rfl, rfl, rfl, rfl, rfl, rfl⟩ := pe6 hf
  exact m_vret hx hb hr hlocks hP hS dX0_become_83
