/-! ===== OrphanWave$Trees.grow(I)I ===== -/
abbrev rm_X10_grow : Room := { frames := 0, cells := 0, slots := 0, locals := 0 }
abbrev w_X10_grow (a0 : Nat) (q_livingRings : Nat) (q_woodRings : Nat) (q_woodCounts : Nat) (q_ends : Nat) (cA : Nat → ClassId) (s_livingCount : Int32) (s_firstYear : Int32) (s_livingRings : Nat → Int32) : va_W := [(a0, .inr (10, [.ref q_livingRings, .ref q_woodRings, .ref q_woodCounts, .ref q_ends, .int s_livingCount, .int s_firstYear])), (q_livingRings, .inl (cA 1, 60, .inl s_livingRings))]
theorem hn_X10_grow_X10 : ∀ w ∈ u_ws RX10 TX10 6, w ∈ wsX10_grow := by decide +kernel
theorem hw_X10_grow_f9 : Cond.fieldLink RX10 9 "OrphanWave$Trees" "livingRings" "[I" ∈ wsX10_grow := by decide +kernel
theorem hw_X10_grow_f30 : Cond.fieldLink RX10 30 "OrphanWave$Trees" "livingCount" "I" ∈ wsX10_grow := by decide +kernel

def f_X10_grow (x1 : Int32) (s_livingCount : Int32) (s_livingRings : Nat → Int32) : Option ((Int32) × (Int32) × (Nat → Int32)) :=
  plt ((s_livingCount + (1 : Int32)) : Int32) (fun livingCount_1 => (
  pgd (pin s_livingCount 60) (
  plt (upd s_livingRings s_livingCount.toNatClampNeg x1 : Nat → Int32) (fun f_3 => (
  some (livingCount_1, livingCount_1, f_3))))))

set_option maxRecDepth 100000 in
set_option maxHeartbeats 4000000 in
theorem ct_X10_grow (l : Launch) (D : va_G) (cA : Nat → ClassId) (x1 : Int32) (a0 : Nat) (q_livingRings : Nat) (q_woodRings : Nat) (q_woodCounts : Nat) (q_ends : Nat) (s_livingCount : Int32) (s_firstYear : Int32) (s_livingRings : Nat → Int32) (o_r : Int32) (o_livingCount : Int32) (o_livingRings : Nat → Int32) (hf : f_X10_grow x1 s_livingCount s_livingRings = some (o_r, o_livingCount, o_livingRings)) : CT l yX10_grow wsX10_grow rm_X10_grow D cA [.ref a0, .int x1] (w_X10_grow a0 q_livingRings q_woodRings q_woodCounts q_ends cA s_livingCount s_firstYear s_livingRings) (w_X10_grow a0 q_livingRings q_woodRings q_woodCounts q_ends cA o_livingCount s_firstYear o_livingRings) (some (.int o_r)) := by
  refine CT.ofW (cc := cX10_grow) (maxL := 2) (ret := (some .int)) (by decide +kernel) rfl (Nat.le_of_ble_eq_true rfl) ?_
  intro p e s m below meth c A C0 hA hP hD ls hl
  have C0 : MX p s m [.ref a0, .int x1].toArray meth c cX10_grow 2 wsX10_grow RX10 (some .int) D cA := C0
  have hl : lv_has ls 2 [(0, .ref a0), (1, .int x1)] := hl
  obtain ⟨hx, hb, hml, hown, hts, hr, hlocks, hX⟩ := id C0
  have hK := hX.1
  have hN := hX.2
  have hS : va_S A s.heap s.heap [] := va_S.rf
  unfold f_X10_grow at hf
  refine lv_aload_n hx hb dX10_grow_0 rfl (lv_at hl 0 rfl) ?_
  refine va_get (D := D) (ci := 10) (v := .ref q_livingRings) (C := RX10) (T := TX10) (N := 6) hx hb hts hn_X10_grow_X10 hown hK hP 0 rfl rfl 0 (by decide) (hts _ hw_X10_grow_f9) (fun _ h9 => h9) rfl dX10_grow_1 ?_
  refine lv_aload_n hx hb dX10_grow_4 rfl (lv_at hl 0 rfl) ?_
  refine lv_dup hx hb dX10_grow_5 rfl ?_
  refine va_get (D := D) (ci := 10) (v := .int s_livingCount) (C := RX10) (T := TX10) (N := 6) hx hb hts hn_X10_grow_X10 hown hK hP 0 rfl rfl 4 (by decide) (hts _ hw_X10_grow_f30) (fun _ h9 => h9) rfl dX10_grow_6 ?_
  refine lv_dup_x1 hx hb dX10_grow_9 rfl rfl ?_
  refine lv_iconst (v := (1 : Int32)) hx hb dX10_grow_10 (by decide) ?_
  refine lv_iadd hx hb dX10_grow_11 ?_
  refine lv_topi (fun livingCount_1 elivingCount_1 => ?_)
  have hf := plt_e elivingCount_1 hf
  refine va_put (D := D) (ci := 10) (v := .int livingCount_1) (ty := .int) (C := RX10) (T := TX10) (N := 6) hx hb hts hn_X10_grow_X10 tyX10 tyX10_ok nmX10 hown hK hP hD hS 0 rfl rfl 4 (by decide) (hts _ hw_X10_grow_f30) (fun _ h9 => h9) rfl (by decide +kernel) rfl rfl (Nat.le_of_ble_eq_true rfl) dX10_grow_12 (fun H locs hP hD hS => ?_)
  have hP : va_P D vwCl (w_X10_grow a0 q_livingRings q_woodRings q_woodCounts q_ends cA livingCount_1 s_firstYear s_livingRings) H := hP
  have hD : va_D A (w_X10_grow a0 q_livingRings q_woodRings q_woodCounts q_ends cA livingCount_1 s_firstYear s_livingRings) := hD
  refine lv_iload_n hx hb dX10_grow_15 rfl (lv_at hl 1 rfl) ?_
  obtain ⟨g_2, hf⟩ := pgd_e hf
  refine va_iast hx hb hK hP hD hS 1 1 rfl rfl g_2 dX10_grow_16 (fun H locs hP hD hS => ?_)
  obtain ⟨f_3, ef_3⟩ : ∃ z : Nat → Int32, z = upd s_livingRings s_livingCount.toNatClampNeg x1 := ⟨_, rfl⟩
  have hf := plt_e ef_3 hf
  have hP : va_P D vwCl (w_X10_grow a0 q_livingRings q_woodRings q_woodCounts q_ends cA livingCount_1 s_firstYear f_3) H := by rw [ef_3]; exact hP
  have hD : va_D A (w_X10_grow a0 q_livingRings q_woodRings q_woodCounts q_ends cA livingCount_1 s_firstYear f_3) := by rw [ef_3]; exact hD
  refine lv_aload_n hx hb dX10_grow_17 rfl (lv_at hl 0 rfl) ?_
  refine va_get (D := D) (ci := 10) (v := .int livingCount_1) (C := RX10) (T := TX10) (N := 6) hx hb hts hn_X10_grow_X10 hown hK hP 0 rfl rfl 4 (by decide) (hts _ hw_X10_grow_f30) (fun _ h9 => h9) rfl dX10_grow_18 ?_
  obtain ⟨rfl, rfl, rfl⟩ := pe3 hf
  exact m_iret hx hb hr hlocks hP hS dX10_grow_21

/-! ===== OrphanWave$Trees.plant(I)I ===== -/
abbrev rm_X10_plant : Room := { frames := 0, cells := 0, slots := 0, locals := 0 }
abbrev w_X10_plant (a0 : Nat) (q_livingRings : Nat) (q_woodRings : Nat) (q_woodCounts : Nat) (q_ends : Nat) (cA : Nat → ClassId) (s_livingCount : Int32) (s_firstYear : Int32) : va_W := [(a0, .inr (10, [.ref q_livingRings, .ref q_woodRings, .ref q_woodCounts, .ref q_ends, .int s_livingCount, .int s_firstYear]))]
theorem hn_X10_plant_X10 : ∀ w ∈ u_ws RX10 TX10 6, w ∈ wsX10_plant := by decide +kernel
theorem hw_X10_plant_f30 : Cond.fieldLink RX10 30 "OrphanWave$Trees" "livingCount" "I" ∈ wsX10_plant := by decide +kernel
theorem hw_X10_plant_f26 : Cond.fieldLink RX10 26 "OrphanWave$Trees" "firstYear" "I" ∈ wsX10_plant := by decide +kernel

def f_X10_plant (x1 : Int32) (s_livingCount : Int32) (s_firstYear : Int32) : Option ((Int32) × (Int32) × (Int32)) :=
  some (s_livingCount, (0 : Int32), x1)

set_option maxRecDepth 100000 in
set_option maxHeartbeats 4000000 in
theorem ct_X10_plant (l : Launch) (D : va_G) (cA : Nat → ClassId) (x1 : Int32) (a0 : Nat) (q_livingRings : Nat) (q_woodRings : Nat) (q_woodCounts : Nat) (q_ends : Nat) (s_livingCount : Int32) (s_firstYear : Int32) (o_r : Int32) (o_livingCount : Int32) (o_firstYear : Int32) (hf : f_X10_plant x1 s_livingCount s_firstYear = some (o_r, o_livingCount, o_firstYear)) : CT l yX10_plant wsX10_plant rm_X10_plant D cA [.ref a0, .int x1] (w_X10_plant a0 q_livingRings q_woodRings q_woodCounts q_ends cA s_livingCount s_firstYear) (w_X10_plant a0 q_livingRings q_woodRings q_woodCounts q_ends cA o_livingCount o_firstYear) (some (.int o_r)) := by
  refine CT.ofW (cc := cX10_plant) (maxL := 3) (ret := (some .int)) (by decide +kernel) rfl (Nat.le_of_ble_eq_true rfl) ?_
  intro p e s m below meth c A C0 hA hP hD ls hl
  have C0 : MX p s m [.ref a0, .int x1].toArray meth c cX10_plant 3 wsX10_plant RX10 (some .int) D cA := C0
  have hl : lv_has ls 3 [(0, .ref a0), (1, .int x1)] := hl
  obtain ⟨hx, hb, hml, hown, hts, hr, hlocks, hX⟩ := id C0
  have hK := hX.1
  have hN := hX.2
  have hS : va_S A s.heap s.heap [] := va_S.rf
  unfold f_X10_plant at hf
  refine lv_aload_n hx hb dX10_plant_0 rfl (lv_at hl 0 rfl) ?_
  refine va_get (D := D) (ci := 10) (v := .int s_livingCount) (C := RX10) (T := TX10) (N := 6) hx hb hts hn_X10_plant_X10 hown hK hP 0 rfl rfl 4 (by decide) (hts _ hw_X10_plant_f30) (fun _ h9 => h9) rfl dX10_plant_1 ?_
  refine lv_istore_n (lv' := [(2, .int s_livingCount), (0, .ref a0), (1, .int x1)]) hx hb dX10_plant_4 rfl hl (by decide) rfl (fun ls hl => ?_)
  refine lv_aload_n hx hb dX10_plant_5 rfl (lv_at hl 1 rfl) ?_
  refine lv_iconst (v := (0 : Int32)) hx hb dX10_plant_6 (by decide) ?_
  refine va_put (D := D) (ci := 10) (v := .int (0 : Int32)) (ty := .int) (C := RX10) (T := TX10) (N := 6) hx hb hts hn_X10_plant_X10 tyX10 tyX10_ok nmX10 hown hK hP hD hS 0 rfl rfl 4 (by decide) (hts _ hw_X10_plant_f30) (fun _ h9 => h9) rfl (by decide +kernel) rfl rfl (Nat.le_of_ble_eq_true rfl) dX10_plant_7 (fun H locs hP hD hS => ?_)
  have hP : va_P D vwCl (w_X10_plant a0 q_livingRings q_woodRings q_woodCounts q_ends cA (0 : Int32) s_firstYear) H := hP
  have hD : va_D A (w_X10_plant a0 q_livingRings q_woodRings q_woodCounts q_ends cA (0 : Int32) s_firstYear) := hD
  refine lv_aload_n hx hb dX10_plant_10 rfl (lv_at hl 1 rfl) ?_
  refine lv_iload_n hx hb dX10_plant_11 rfl (lv_at hl 2 rfl) ?_
  refine va_put (D := D) (ci := 10) (v := .int x1) (ty := .int) (C := RX10) (T := TX10) (N := 6) hx hb hts hn_X10_plant_X10 tyX10 tyX10_ok nmX10 hown hK hP hD hS 0 rfl rfl 5 (by decide) (hts _ hw_X10_plant_f26) (fun _ h9 => h9) rfl (by decide +kernel) rfl rfl (Nat.le_of_ble_eq_true rfl) dX10_plant_12 (fun H locs hP hD hS => ?_)
  have hP : va_P D vwCl (w_X10_plant a0 q_livingRings q_woodRings q_woodCounts q_ends cA (0 : Int32) x1) H := hP
  have hD : va_D A (w_X10_plant a0 q_livingRings q_woodRings q_woodCounts q_ends cA (0 : Int32) x1) := hD
  refine lv_iload_n hx hb dX10_plant_15 rfl (lv_at hl 0 rfl) ?_
  obtain ⟨rfl, rfl, rfl⟩ := pe3 hf
  exact m_iret hx hb hr hlocks hP hS dX10_plant_16

/-! ===== OrphanWave$Trees.growWood(II)I ===== -/
abbrev rm_X10_growWood : Room := { frames := 0, cells := 0, slots := 0, locals := 0 }
abbrev wx_X10_growWood (a0 : Nat) (q_woodCounts : Nat) (q_woodRings : Nat) (q_livingRings : Nat) (q_ends : Nat) (r_woodRings : Nat → Nat) (cA : Nat → ClassId) (s_livingCount : Int32) (s_firstYear : Int32) (s_woodCounts : Nat → Int32) (s_woodRings : Nat → Nat → Int32) : va_W := [(a0, .inr (10, [.ref q_livingRings, .ref q_woodRings, .ref q_woodCounts, .ref q_ends, .int s_livingCount, .int s_firstYear])), (q_woodCounts, .inl (cA 1, 4, .inl s_woodCounts)), (q_woodRings, .inl (cA 5, 4, .inr (.inr (.inr (.inr (gro 4 r_woodRings))))))]
abbrev w_X10_growWood (a0 : Nat) (q_woodCounts : Nat) (q_woodRings : Nat) (q_livingRings : Nat) (q_ends : Nat) (r_woodRings : Nat → Nat) (cA : Nat → ClassId) (s_livingCount : Int32) (s_firstYear : Int32) (s_woodCounts : Nat → Int32) (s_woodRings : Nat → Nat → Int32) : va_W := [(a0, .inr (10, [.ref q_livingRings, .ref q_woodRings, .ref q_woodCounts, .ref q_ends, .int s_livingCount, .int s_firstYear])), (q_woodCounts, .inl (cA 1, 4, .inl s_woodCounts)), (q_woodRings, .inl (cA 5, 4, .inr (.inr (.inr (.inr (gro 4 r_woodRings))))))] ++ grw 4 r_woodRings (cA 1) 30 s_woodRings
theorem hn_X10_growWood_X10 : ∀ w ∈ u_ws RX10 TX10 6, w ∈ wsX10_growWood := by decide +kernel
theorem hw_X10_growWood_f17 : Cond.fieldLink RX10 17 "OrphanWave$Trees" "woodRings" "[[I" ∈ wsX10_growWood := by decide +kernel
theorem hw_X10_growWood_f20 : Cond.fieldLink RX10 20 "OrphanWave$Trees" "woodCounts" "[I" ∈ wsX10_growWood := by decide +kernel

def f_X10_growWood (x1 : Int32) (x2 : Int32) (s_woodCounts : Nat → Int32) (s_woodRings : Nat → Nat → Int32) : Option ((Int32) × (Nat → Int32) × (Nat → Nat → Int32)) :=
  pgd (pin x1 4) (
  plt (upd s_woodCounts x1.toNatClampNeg ((s_woodCounts x1.toNatClampNeg) + (1 : Int32)) : Nat → Int32) (fun f_2 => (
  pgd (pin (s_woodCounts x1.toNatClampNeg) 30) (
  plt (up2 s_woodRings x1.toNatClampNeg (s_woodCounts x1.toNatClampNeg).toNatClampNeg x2 : Nat → Nat → Int32) (fun f_4 => (
  some ((f_2 x1.toNatClampNeg), f_2, f_4)))))))

set_option maxRecDepth 100000 in
set_option maxHeartbeats 4000000 in
theorem ct_X10_growWood (l : Launch) (D : va_G) (cA : Nat → ClassId) (x1 : Int32) (x2 : Int32) (a0 : Nat) (q_woodCounts : Nat) (q_woodRings : Nat) (q_livingRings : Nat) (q_ends : Nat) (r_woodRings : Nat → Nat) (s_livingCount : Int32) (s_firstYear : Int32) (s_woodCounts : Nat → Int32) (s_woodRings : Nat → Nat → Int32) (o_r : Int32) (o_woodCounts : Nat → Int32) (o_woodRings : Nat → Nat → Int32) (hf : f_X10_growWood x1 x2 s_woodCounts s_woodRings = some (o_r, o_woodCounts, o_woodRings)) : CT l yX10_growWood wsX10_growWood rm_X10_growWood D cA [.ref a0, .int x1, .int x2] (w_X10_growWood a0 q_woodCounts q_woodRings q_livingRings q_ends r_woodRings cA s_livingCount s_firstYear s_woodCounts s_woodRings) (w_X10_growWood a0 q_woodCounts q_woodRings q_livingRings q_ends r_woodRings cA s_livingCount s_firstYear o_woodCounts o_woodRings) (some (.int o_r)) := by
  refine CT.ofW (cc := cX10_growWood) (maxL := 3) (ret := (some .int)) (by decide +kernel) rfl (Nat.le_of_ble_eq_true rfl) ?_
  intro p e s m below meth c A C0 hA hP hD ls hl
  have C0 : MX p s m [.ref a0, .int x1, .int x2].toArray meth c cX10_growWood 3 wsX10_growWood RX10 (some .int) D cA := C0
  have hl : lv_has ls 3 [(0, .ref a0), (1, .int x1), (2, .int x2)] := hl
  obtain ⟨hx, hb, hml, hown, hts, hr, hlocks, hX⟩ := id C0
  have hK := hX.1
  have hN := hX.2
  have hS : va_S A s.heap s.heap [] := va_S.rf
  unfold f_X10_growWood at hf
  refine lv_aload_n hx hb dX10_growWood_0 rfl (lv_at hl 0 rfl) ?_
  refine va_get (D := D) (ci := 10) (v := .ref q_woodRings) (C := RX10) (T := TX10) (N := 6) hx hb hts hn_X10_growWood_X10 hown hK hP 0 rfl rfl 1 (by decide) (hts _ hw_X10_growWood_f17) (fun _ h9 => h9) rfl dX10_growWood_1 ?_
  refine lv_iload_n hx hb dX10_growWood_4 rfl (lv_at hl 1 rfl) ?_
  obtain ⟨g_1, hf⟩ := pgd_e hf
  refine m_aald hx hb hK hP 2 rfl g_1 dX10_growWood_5 ?_
  refine lv_aload_n hx hb dX10_growWood_6 rfl (lv_at hl 0 rfl) ?_
  refine va_get (D := D) (ci := 10) (v := .ref q_woodCounts) (C := RX10) (T := TX10) (N := 6) hx hb hts hn_X10_growWood_X10 hown hK hP 0 rfl rfl 2 (by decide) (hts _ hw_X10_growWood_f20) (fun _ h9 => h9) rfl dX10_growWood_7 ?_
  refine lv_iload_n hx hb dX10_growWood_10 rfl (lv_at hl 1 rfl) ?_
  refine lv_dup2_11 hx hb dX10_growWood_11 rfl rfl ?_
  refine va_iald hx hb hK hP 1 1 rfl rfl g_1 dX10_growWood_12 ?_
  refine lv_dup_x2 hx hb dX10_growWood_13 rfl rfl rfl ?_
  refine lv_iconst (v := (1 : Int32)) hx hb dX10_growWood_14 (by decide) ?_
  refine lv_iadd hx hb dX10_growWood_15 ?_
  refine va_iast hx hb hK hP hD hS 1 1 rfl rfl g_1 dX10_growWood_16 (fun H locs hP hD hS => ?_)
  obtain ⟨f_2, ef_2⟩ : ∃ z : Nat → Int32, z = upd s_woodCounts x1.toNatClampNeg ((s_woodCounts x1.toNatClampNeg) + (1 : Int32)) := ⟨_, rfl⟩
  have hf := plt_e ef_2 hf
  have hP : va_P D vwCl (w_X10_growWood a0 q_woodCounts q_woodRings q_livingRings q_ends r_woodRings cA s_livingCount s_firstYear f_2 s_woodRings) H := by rw [ef_2]; exact hP
  have hD : va_D A (w_X10_growWood a0 q_woodCounts q_woodRings q_livingRings q_ends r_woodRings cA s_livingCount s_firstYear f_2 s_woodRings) := by rw [ef_2]; exact hD
  refine lv_iload_n hx hb dX10_growWood_17 rfl (lv_at hl 2 rfl) ?_
  obtain ⟨g_3, hf⟩ := pgd_e hf
  refine m_rast (i := x1) hx hb hK hP hD hS rfl g_1 g_3 dX10_growWood_18 (fun H locs hP hD hS => ?_)
  obtain ⟨f_4, ef_4⟩ : ∃ z : Nat → Nat → Int32, z = up2 s_woodRings x1.toNatClampNeg (s_woodCounts x1.toNatClampNeg).toNatClampNeg x2 := ⟨_, rfl⟩
  have hf := plt_e ef_4 hf
  have hP : va_P D vwCl (w_X10_growWood a0 q_woodCounts q_woodRings q_livingRings q_ends r_woodRings cA s_livingCount s_firstYear f_2 f_4) H := by rw [ef_4]; exact hP
  have hD : va_D A (w_X10_growWood a0 q_woodCounts q_woodRings q_livingRings q_ends r_woodRings cA s_livingCount s_firstYear f_2 f_4) := by rw [ef_4]; exact hD
  refine lv_aload_n hx hb dX10_growWood_19 rfl (lv_at hl 0 rfl) ?_
  refine va_get (D := D) (ci := 10) (v := .ref q_woodCounts) (C := RX10) (T := TX10) (N := 6) hx hb hts hn_X10_growWood_X10 hown hK hP 0 rfl rfl 2 (by decide) (hts _ hw_X10_growWood_f20) (fun _ h9 => h9) rfl dX10_growWood_20 ?_
  refine lv_iload_n hx hb dX10_growWood_23 rfl (lv_at hl 1 rfl) ?_
  refine va_iald hx hb hK hP 1 1 rfl rfl g_1 dX10_growWood_24 ?_
  obtain ⟨rfl, rfl, rfl⟩ := pe3 hf
  exact m_iret hx hb hr hlocks hP hS dX10_growWood_25

/-! ===== OrphanWave$Trees.startWood(II)I ===== -/
abbrev rm_X10_startWood : Room := { frames := 0, cells := 0, slots := 0, locals := 0 }
abbrev w_X10_startWood (a0 : Nat) (q_woodCounts : Nat) (q_ends : Nat) (q_livingRings : Nat) (q_woodRings : Nat) (cA : Nat → ClassId) (s_livingCount : Int32) (s_firstYear : Int32) (s_woodCounts : Nat → Int32) (s_ends : Nat → Int32) : va_W := [(a0, .inr (10, [.ref q_livingRings, .ref q_woodRings, .ref q_woodCounts, .ref q_ends, .int s_livingCount, .int s_firstYear])), (q_woodCounts, .inl (cA 1, 4, .inl s_woodCounts)), (q_ends, .inl (cA 1, 4, .inl s_ends))]
theorem hn_X10_startWood_X10 : ∀ w ∈ u_ws RX10 TX10 6, w ∈ wsX10_startWood := by decide +kernel
theorem hw_X10_startWood_f20 : Cond.fieldLink RX10 20 "OrphanWave$Trees" "woodCounts" "[I" ∈ wsX10_startWood := by decide +kernel
theorem hw_X10_startWood_f23 : Cond.fieldLink RX10 23 "OrphanWave$Trees" "ends" "[I" ∈ wsX10_startWood := by decide +kernel

def f_X10_startWood (x1 : Int32) (x2 : Int32) (s_woodCounts : Nat → Int32) (s_ends : Nat → Int32) : Option ((Int32) × (Nat → Int32) × (Nat → Int32)) :=
  pgd (pin x1 4) (
  plt ((s_woodCounts x1.toNatClampNeg) : Int32) (fun x3_2 => (
  plt (upd s_woodCounts x1.toNatClampNeg (0 : Int32) : Nat → Int32) (fun f_3 => (
  plt (upd s_ends x1.toNatClampNeg x2 : Nat → Int32) (fun f_4 => (
  some (x3_2, f_3, f_4))))))))

set_option maxRecDepth 100000 in
set_option maxHeartbeats 4000000 in
theorem ct_X10_startWood (l : Launch) (D : va_G) (cA : Nat → ClassId) (x1 : Int32) (x2 : Int32) (a0 : Nat) (q_woodCounts : Nat) (q_ends : Nat) (q_livingRings : Nat) (q_woodRings : Nat) (s_livingCount : Int32) (s_firstYear : Int32) (s_woodCounts : Nat → Int32) (s_ends : Nat → Int32) (o_r : Int32) (o_woodCounts : Nat → Int32) (o_ends : Nat → Int32) (hf : f_X10_startWood x1 x2 s_woodCounts s_ends = some (o_r, o_woodCounts, o_ends)) : CT l yX10_startWood wsX10_startWood rm_X10_startWood D cA [.ref a0, .int x1, .int x2] (w_X10_startWood a0 q_woodCounts q_ends q_livingRings q_woodRings cA s_livingCount s_firstYear s_woodCounts s_ends) (w_X10_startWood a0 q_woodCounts q_ends q_livingRings q_woodRings cA s_livingCount s_firstYear o_woodCounts o_ends) (some (.int o_r)) := by
  refine CT.ofW (cc := cX10_startWood) (maxL := 4) (ret := (some .int)) (by decide +kernel) rfl (Nat.le_of_ble_eq_true rfl) ?_
  intro p e s m below meth c A C0 hA hP hD ls hl
  have C0 : MX p s m [.ref a0, .int x1, .int x2].toArray meth c cX10_startWood 4 wsX10_startWood RX10 (some .int) D cA := C0
  have hl : lv_has ls 4 [(0, .ref a0), (1, .int x1), (2, .int x2)] := hl
  obtain ⟨hx, hb, hml, hown, hts, hr, hlocks, hX⟩ := id C0
  have hK := hX.1
  have hN := hX.2
  have hS : va_S A s.heap s.heap [] := va_S.rf
  unfold f_X10_startWood at hf
  refine lv_aload_n hx hb dX10_startWood_0 rfl (lv_at hl 0 rfl) ?_
  refine va_get (D := D) (ci := 10) (v := .ref q_woodCounts) (C := RX10) (T := TX10) (N := 6) hx hb hts hn_X10_startWood_X10 hown hK hP 0 rfl rfl 2 (by decide) (hts _ hw_X10_startWood_f20) (fun _ h9 => h9) rfl dX10_startWood_1 ?_
  refine lv_iload_n hx hb dX10_startWood_4 rfl (lv_at hl 1 rfl) ?_
  obtain ⟨g_1, hf⟩ := pgd_e hf
  refine va_iald hx hb hK hP 1 1 rfl rfl g_1 dX10_startWood_5 ?_
  refine lv_topi (fun x3_2 ex3_2 => ?_)
  have hf := plt_e ex3_2 hf
  refine lv_istore_n (lv' := [(3, .int x3_2), (0, .ref a0), (1, .int x1), (2, .int x2)]) hx hb dX10_startWood_6 rfl hl (by decide) rfl (fun ls hl => ?_)
  refine lv_aload_n hx hb dX10_startWood_7 rfl (lv_at hl 1 rfl) ?_
  refine va_get (D := D) (ci := 10) (v := .ref q_woodCounts) (C := RX10) (T := TX10) (N := 6) hx hb hts hn_X10_startWood_X10 hown hK hP 0 rfl rfl 2 (by decide) (hts _ hw_X10_startWood_f20) (fun _ h9 => h9) rfl dX10_startWood_8 ?_
  refine lv_iload_n hx hb dX10_startWood_11 rfl (lv_at hl 2 rfl) ?_
  refine lv_iconst (v := (0 : Int32)) hx hb dX10_startWood_12 (by decide) ?_
  refine va_iast hx hb hK hP hD hS 1 1 rfl rfl g_1 dX10_startWood_13 (fun H locs hP hD hS => ?_)
  obtain ⟨f_3, ef_3⟩ : ∃ z : Nat → Int32, z = upd s_woodCounts x1.toNatClampNeg (0 : Int32) := ⟨_, rfl⟩
  have hf := plt_e ef_3 hf
  have hP : va_P D vwCl (w_X10_startWood a0 q_woodCounts q_ends q_livingRings q_woodRings cA s_livingCount s_firstYear f_3 s_ends) H := by rw [ef_3]; exact hP
  have hD : va_D A (w_X10_startWood a0 q_woodCounts q_ends q_livingRings q_woodRings cA s_livingCount s_firstYear f_3 s_ends) := by rw [ef_3]; exact hD
  refine lv_aload_n hx hb dX10_startWood_14 rfl (lv_at hl 1 rfl) ?_
  refine va_get (D := D) (ci := 10) (v := .ref q_ends) (C := RX10) (T := TX10) (N := 6) hx hb hts hn_X10_startWood_X10 hown hK hP 0 rfl rfl 3 (by decide) (hts _ hw_X10_startWood_f23) (fun _ h9 => h9) rfl dX10_startWood_15 ?_
  refine lv_iload_n hx hb dX10_startWood_18 rfl (lv_at hl 2 rfl) ?_
  refine lv_iload_n hx hb dX10_startWood_19 rfl (lv_at hl 3 rfl) ?_
  refine va_iast hx hb hK hP hD hS 2 1 rfl rfl g_1 dX10_startWood_20 (fun H locs hP hD hS => ?_)
  obtain ⟨f_4, ef_4⟩ : ∃ z : Nat → Int32, z = upd s_ends x1.toNatClampNeg x2 := ⟨_, rfl⟩
  have hf := plt_e ef_4 hf
  have hP : va_P D vwCl (w_X10_startWood a0 q_woodCounts q_ends q_livingRings q_woodRings cA s_livingCount s_firstYear f_3 f_4) H := by rw [ef_4]; exact hP
  have hD : va_D A (w_X10_startWood a0 q_woodCounts q_ends q_livingRings q_woodRings cA s_livingCount s_firstYear f_3 f_4) := by rw [ef_4]; exact hD
  refine lv_iload_n hx hb dX10_startWood_21 rfl (lv_at hl 0 rfl) ?_
  obtain ⟨rfl, rfl, rfl⟩ := pe3 hf
  exact m_iret hx hb hr hlocks hP hS dX10_startWood_22

/-! ===== OrphanWave$Trees.lies(II)Z ===== -/
abbrev rm_X10_lies : Room := { frames := 1, cells := 0, slots := 0, locals := 22 }
abbrev w_X10_lies (a0 : Nat) (q_woodCounts : Nat) (q_livingRings : Nat) (q_woodRings : Nat) (q_ends : Nat) (cA : Nat → ClassId) (s_livingCount : Int32) (s_firstYear : Int32) (s_woodCounts : Nat → Int32) : va_W := [(a0, .inr (10, [.ref q_livingRings, .ref q_woodRings, .ref q_woodCounts, .ref q_ends, .int s_livingCount, .int s_firstYear])), (q_woodCounts, .inl (cA 1, 4, .inl s_woodCounts))]
theorem hn_X10_lies_X10 : ∀ w ∈ u_ws RX10 TX10 6, w ∈ wsX10_lies := by decide +kernel
theorem hw_X10_lies_f20 : Cond.fieldLink RX10 20 "OrphanWave$Trees" "woodCounts" "[I" ∈ wsX10_lies := by decide +kernel
theorem hw_X10_lies_f30 : Cond.fieldLink RX10 30 "OrphanWave$Trees" "livingCount" "I" ∈ wsX10_lies := by decide +kernel
theorem hw_X10_lies_iX11 : Cond.initialized RX11 ∈ wsX10_lies := by decide +kernel
theorem hw_X10_lies_sX11_within : Cond.static yX11_within ∈ wsX10_lies := by decide +kernel

def f_X10_lies (x1 : Int32) (x2 : Int32) (s_livingCount : Int32) (s_woodCounts : Nat → Int32) : Option ((Int32)) :=
  pgd (pin x1 4) (
  pbr ((s_woodCounts x1.toNatClampNeg) < (2 : Int32))
    (some ((0 : Int32)))
    (pcl (f_X11_within x2 (0 : Int32) (s_livingCount - (s_woodCounts x1.toNatClampNeg))) (fun r_3 => (
    pbr (r_3 = 0)
      (some ((0 : Int32)))
      (some ((1 : Int32)))))))

set_option maxRecDepth 100000 in
set_option maxHeartbeats 4000000 in
theorem ct_X10_lies (l : Launch) (D : va_G) (cA : Nat → ClassId) (x1 : Int32) (x2 : Int32) (a0 : Nat) (q_woodCounts : Nat) (q_livingRings : Nat) (q_woodRings : Nat) (q_ends : Nat) (s_livingCount : Int32) (s_firstYear : Int32) (s_woodCounts : Nat → Int32) (o_r : Int32) (hf : f_X10_lies x1 x2 s_livingCount s_woodCounts = some o_r) : CT l yX10_lies wsX10_lies rm_X10_lies D cA [.ref a0, .int x1, .int x2] (w_X10_lies a0 q_woodCounts q_livingRings q_woodRings q_ends cA s_livingCount s_firstYear s_woodCounts) (w_X10_lies a0 q_woodCounts q_livingRings q_woodRings q_ends cA s_livingCount s_firstYear s_woodCounts) (some (.int o_r)) := by
  refine CT.ofW (cc := cX10_lies) (maxL := 3) (ret := (some .boolean)) (by decide +kernel) rfl (Nat.le_of_ble_eq_true rfl) ?_
  intro p e s m below meth c A C0 hA hP hD ls hl
  have C0 : MX p s m [.ref a0, .int x1, .int x2].toArray meth c cX10_lies 3 wsX10_lies RX10 (some .boolean) D cA := C0
  have hl : lv_has ls 3 [(0, .ref a0), (1, .int x1), (2, .int x2)] := hl
  obtain ⟨hx, hb, hml, hown, hts, hr, hlocks, hX⟩ := id C0
  have hK := hX.1
  have hN := hX.2
  have hS : va_S A s.heap s.heap [] := va_S.rf
  unfold f_X10_lies at hf
  refine lv_aload_n hx hb dX10_lies_0 rfl (lv_at hl 0 rfl) ?_
  refine va_get (D := D) (ci := 10) (v := .ref q_woodCounts) (C := RX10) (T := TX10) (N := 6) hx hb hts hn_X10_lies_X10 hown hK hP 0 rfl rfl 2 (by decide) (hts _ hw_X10_lies_f20) (fun _ h9 => h9) rfl dX10_lies_1 ?_
  refine lv_iload_n hx hb dX10_lies_4 rfl (lv_at hl 1 rfl) ?_
  obtain ⟨g_1, hf⟩ := pgd_e hf
  refine va_iald hx hb hK hP 1 1 rfl rfl g_1 dX10_lies_5 ?_
  refine lv_iconst (v := (2 : Int32)) hx hb dX10_lies_6 (by decide) ?_
  refine lv_icmp_lt (tgt := 33) hx hb dX10_lies_7 (by decide) (fun c_2 => ?_) (fun c_2 => ?_)
  · have hf := pbr_t c_2 hf
    refine lv_iconst (v := (0 : Int32)) hx hb dX10_lies_33 (by decide) ?_
    obtain rfl := pe1 hf
    exact m_zret (by decide) hx hb hr hlocks hP hS dX10_lies_34
  have hf := pbr_f c_2 hf
  refine lv_iload_n hx hb dX10_lies_10 rfl (lv_at hl 2 rfl) ?_
  refine lv_iconst (v := (0 : Int32)) hx hb dX10_lies_11 (by decide) ?_
  refine lv_aload_n hx hb dX10_lies_12 rfl (lv_at hl 0 rfl) ?_
  refine va_get (D := D) (ci := 10) (v := .int s_livingCount) (C := RX10) (T := TX10) (N := 6) hx hb hts hn_X10_lies_X10 hown hK hP 0 rfl rfl 4 (by decide) (hts _ hw_X10_lies_f30) (fun _ h9 => h9) rfl dX10_lies_13 ?_
  refine lv_aload_n hx hb dX10_lies_16 rfl (lv_at hl 0 rfl) ?_
  refine va_get (D := D) (ci := 10) (v := .ref q_woodCounts) (C := RX10) (T := TX10) (N := 6) hx hb hts hn_X10_lies_X10 hown hK hP 0 rfl rfl 2 (by decide) (hts _ hw_X10_lies_f20) (fun _ h9 => h9) rfl dX10_lies_17 ?_
  refine lv_iload_n hx hb dX10_lies_20 rfl (lv_at hl 1 rfl) ?_
  refine va_iald hx hb hK hP 1 1 rfl rfl g_1 dX10_lies_21 ?_
  refine lv_isub hx hb dX10_lies_22 ?_
  obtain ⟨r_3, hc_4, hf⟩ := pcl_e hf
  refine m_callSN2 (As := [.int x2, .int (0 : Int32), .int (s_livingCount - (s_woodCounts x1.toNatClampNeg))]) (rest := []) ⟨hx, hb, hml, hown, hts⟩ hX (ct_X11_within l D cA x2 (0 : Int32) (s_livingCount - (s_woodCounts x1.toNatClampNeg)) r_3 hc_4) ⟨va_cnB 3 hts ggX10_lies_X11_within rfl rfl rfl (hN _ nw_X10_33) (hts _ hw_X10_lies_iX11) (by decide +kernel) ⟨Nat.le_of_ble_eq_true rfl, Nat.le_of_ble_eq_true rfl⟩, hts _ hw_X10_lies_sX11_within, trivial⟩ hP hD hS hA [] [0, 1] 2 (by decide) rfl rfl (WS' := (w_X10_lies a0 q_woodCounts q_livingRings q_woodRings q_ends cA s_livingCount s_firstYear s_woodCounts)) (WR := [(a0, .inr (10, [.ref q_livingRings, .ref q_woodRings, .ref q_woodCounts, .ref q_ends, .int s_livingCount, .int s_firstYear])), (q_woodCounts, .inl (cA 1, 4, .inl s_woodCounts))]) rfl rfl rfl rfl (by decide) (by decide) rfl hl.1 rfl (st' := [.int r_3]) rfl (Nat.le_of_ble_eq_true rfl) ⟨Nat.zero_le _, Nat.zero_le _⟩ dX10_lies_23 (fun H locs hP hD hS => ?_)
  refine lv_if_eq (tgt := 33) hx hb dX10_lies_26 (by decide) (fun c_5 => ?_) (fun c_5 => ?_)
  · have hf := pbr_t c_5 hf
    refine lv_iconst (v := (0 : Int32)) hx hb dX10_lies_33 (by decide) ?_
    obtain rfl := pe1 hf
    exact m_zret (by decide) hx hb hr hlocks hP hS dX10_lies_34
  have hf := pbr_f c_5 hf
  refine lv_iconst (v := (1 : Int32)) hx hb dX10_lies_29 (by decide) ?_
  refine lv_goto (tgt := 34) hx hb dX10_lies_30 (by decide) ?_
  obtain rfl := pe1 hf
  exact m_zret (by decide) hx hb hr hlocks hP hS dX10_lies_34

/-! ===== OrphanWave$Trees.likeness(II)I ===== -/
abbrev rm_X10_likeness : Room := { frames := 1, cells := 0, slots := 0, locals := 21 }
abbrev wx_X10_likeness (a0 : Nat) (q_woodCounts : Nat) (q_livingRings : Nat) (q_woodRings : Nat) (q_ends : Nat) (r_woodRings : Nat → Nat) (cA : Nat → ClassId) (s_livingCount : Int32) (s_firstYear : Int32) (s_woodCounts : Nat → Int32) (s_livingRings : Nat → Int32) (s_woodRings : Nat → Nat → Int32) : va_W := [(a0, .inr (10, [.ref q_livingRings, .ref q_woodRings, .ref q_woodCounts, .ref q_ends, .int s_livingCount, .int s_firstYear])), (q_woodCounts, .inl (cA 1, 4, .inl s_woodCounts)), (q_livingRings, .inl (cA 1, 60, .inl s_livingRings)), (q_woodRings, .inl (cA 5, 4, .inr (.inr (.inr (.inr (gro 4 r_woodRings))))))]
abbrev w_X10_likeness (a0 : Nat) (q_woodCounts : Nat) (q_livingRings : Nat) (q_woodRings : Nat) (q_ends : Nat) (r_woodRings : Nat → Nat) (cA : Nat → ClassId) (s_livingCount : Int32) (s_firstYear : Int32) (s_woodCounts : Nat → Int32) (s_livingRings : Nat → Int32) (s_woodRings : Nat → Nat → Int32) : va_W := [(a0, .inr (10, [.ref q_livingRings, .ref q_woodRings, .ref q_woodCounts, .ref q_ends, .int s_livingCount, .int s_firstYear])), (q_woodCounts, .inl (cA 1, 4, .inl s_woodCounts)), (q_livingRings, .inl (cA 1, 60, .inl s_livingRings)), (q_woodRings, .inl (cA 5, 4, .inr (.inr (.inr (.inr (gro 4 r_woodRings))))))] ++ grw 4 r_woodRings (cA 1) 30 s_woodRings
theorem hn_X10_likeness_X10 : ∀ w ∈ u_ws RX10 TX10 6, w ∈ wsX10_likeness := by decide +kernel
theorem hw_X10_likeness_f20 : Cond.fieldLink RX10 20 "OrphanWave$Trees" "woodCounts" "[I" ∈ wsX10_likeness := by decide +kernel
theorem hw_X10_likeness_f17 : Cond.fieldLink RX10 17 "OrphanWave$Trees" "woodRings" "[[I" ∈ wsX10_likeness := by decide +kernel
theorem hw_X10_likeness_f9 : Cond.fieldLink RX10 9 "OrphanWave$Trees" "livingRings" "[I" ∈ wsX10_likeness := by decide +kernel

def f_X10_likeness_5 (s_woodCounts : Nat → Int32) (s_livingRings : Nat → Int32) (s_woodRings : Nat → Nat → Int32) (x1 : Int32) (x2 : Int32) : Nat → (Int32) → (Int32) → Option ((Int32))
  | 0, _, _ => none
  | k + 1, x3, x4 =>
    pgd (pin x1 4) (
    pbr ((s_woodCounts x1.toNatClampNeg) ≤ x4)
      (some (x3))
      (pgd (pin x4 30) (
      pgd (pin (x4 - (1 : Int32)) 30) (
      pcl (f_J6_compare_7cf53 (s_woodRings x1.toNatClampNeg x4.toNatClampNeg) (s_woodRings x1.toNatClampNeg (x4 - (1 : Int32)).toNatClampNeg)) (fun r_5 => (
      pgd (pin (x2 + x4) 60) (
      pgd (pin ((x2 + x4) - (1 : Int32)) 60) (
      pcl (f_J6_compare_7cf53 (s_livingRings (x2 + x4).toNatClampNeg) (s_livingRings ((x2 + x4) - (1 : Int32)).toNatClampNeg)) (fun r_9 => (
      pbr (r_5 = r_9)
        (plt (x3 + (1 : Int32) : Int32) (fun x3_13 => (
        plt (x4 + (1 : Int32) : Int32) (fun x4_14 => (
        (f_X10_likeness_5 s_woodCounts s_livingRings s_woodRings x1 x2 k) x3_13 x4_14)))))
        (plt (x4 + (1 : Int32) : Int32) (fun x4_12 => (
        (f_X10_likeness_5 s_woodCounts s_livingRings s_woodRings x1 x2 k) x3 x4_12)))))))))))))

set_option maxRecDepth 100000 in
set_option maxHeartbeats 4000000 in
theorem k_X10_likeness_5 {p : Program} {l : Launch} {e : Env} {s : State} {m : MethodId} {args : Array Value} {below : List Frame} {meth : Method} {c : Code} {A : Nat → Prop} {D : va_G} {cA : Nat → ClassId} (C0 : MX p s m args meth c cX10_likeness 6 wsX10_likeness RX10 (some .int) D cA) (hA : ∀ q, s.heap.size ≤ q → A q) {a0 : Nat} {q_woodCounts : Nat} {q_livingRings : Nat} {q_woodRings : Nat} {q_ends : Nat} {r_woodRings : Nat → Nat} {s_livingCount : Int32} {s_firstYear : Int32} {s_woodCounts : Nat → Int32} {s_livingRings : Nat → Int32} {s_woodRings : Nat → Nat → Int32} {x1 : Int32} {x2 : Int32} {o_r : Int32} : ∀ (k : Nat) (x3 : Int32) (x4 : Int32), f_X10_likeness_5 s_woodCounts s_livingRings s_woodRings x1 x2 k x3 x4 = some o_r → ∀ (H : Heap) (locs : List Loc), va_P D vwCl (w_X10_likeness a0 q_woodCounts q_livingRings q_woodRings q_ends r_woodRings cA s_livingCount s_firstYear s_woodCounts s_livingRings s_woodRings) H → va_D A (w_X10_likeness a0 q_woodCounts q_livingRings q_woodRings q_ends r_woodRings cA s_livingCount s_firstYear s_woodCounts s_livingRings s_woodRings) → va_S A s.heap H locs → ∀ ls : Array Slot, lv_has ls 6 [(0, .ref a0), (1, .int x1), (2, .int x2), (3, .int x3), (4, .int x4)] → W p l e rm_X10_likeness s m args below meth c H locs 0 0 (MQ below (CQ D (some (.int o_r)) (w_X10_likeness a0 q_woodCounts q_livingRings q_woodRings q_ends r_woodRings cA s_livingCount s_firstYear s_woodCounts s_livingRings s_woodRings) A) args s 0 0 A) (F0 m 5 ls []) := by
  obtain ⟨hx, hb, hml, hown, hts, hr, hlocks, hX⟩ := C0
  have hK := hX.1
  have hN := hX.2
  intro k
  induction k with
  | zero =>
    intro x3 x4 hf
    cases hf
  | succ k ih =>
    intro x3 x4 hf H locs hP hD hS ls hl
    rw [f_X10_likeness_5] at hf
    refine lv_iload hx hb dX10_likeness_5 (lv_at hl 4 rfl) ?_
    refine lv_aload_n hx hb dX10_likeness_7 rfl (lv_at hl 0 rfl) ?_
    refine va_get (D := D) (ci := 10) (v := .ref q_woodCounts) (C := RX10) (T := TX10) (N := 6) hx hb hts hn_X10_likeness_X10 hown hK hP 0 rfl rfl 2 (by decide) (hts _ hw_X10_likeness_f20) (fun _ h9 => h9) rfl dX10_likeness_8 ?_
    refine lv_iload_n hx hb dX10_likeness_11 rfl (lv_at hl 1 rfl) ?_
    obtain ⟨g_1, hf⟩ := pgd_e hf
    refine va_iald hx hb hK hP 1 1 rfl rfl g_1 dX10_likeness_12 ?_
    refine lv_icmp_ge (tgt := 78) hx hb dX10_likeness_13 (by decide) (fun c_2 => ?_) (fun c_2 => ?_)
    · have hf := pbr_t c_2 hf
      refine lv_iload_n hx hb dX10_likeness_78 rfl (lv_at hl 3 rfl) ?_
      obtain rfl := pe1 hf
      exact m_iret hx hb hr hlocks hP hS dX10_likeness_79
    have hf := pbr_f c_2 hf
    refine lv_aload_n hx hb dX10_likeness_16 rfl (lv_at hl 0 rfl) ?_
    refine va_get (D := D) (ci := 10) (v := .ref q_woodRings) (C := RX10) (T := TX10) (N := 6) hx hb hts hn_X10_likeness_X10 hown hK hP 0 rfl rfl 1 (by decide) (hts _ hw_X10_likeness_f17) (fun _ h9 => h9) rfl dX10_likeness_17 ?_
    refine lv_iload_n hx hb dX10_likeness_20 rfl (lv_at hl 1 rfl) ?_
    refine m_aald hx hb hK hP 3 rfl g_1 dX10_likeness_21 ?_
    refine lv_iload hx hb dX10_likeness_22 (lv_at hl 4 rfl) ?_
    obtain ⟨g_3, hf⟩ := pgd_e hf
    refine m_rald (i := x1) hx hb hK hP rfl g_1 g_3 dX10_likeness_24 ?_
    refine lv_aload_n hx hb dX10_likeness_25 rfl (lv_at hl 0 rfl) ?_
    refine va_get (D := D) (ci := 10) (v := .ref q_woodRings) (C := RX10) (T := TX10) (N := 6) hx hb hts hn_X10_likeness_X10 hown hK hP 0 rfl rfl 1 (by decide) (hts _ hw_X10_likeness_f17) (fun _ h9 => h9) rfl dX10_likeness_26 ?_
    refine lv_iload_n hx hb dX10_likeness_29 rfl (lv_at hl 1 rfl) ?_
    refine m_aald hx hb hK hP 3 rfl g_1 dX10_likeness_30 ?_
    refine lv_iload hx hb dX10_likeness_31 (lv_at hl 4 rfl) ?_
    refine lv_iconst (v := (1 : Int32)) hx hb dX10_likeness_33 (by decide) ?_
    refine lv_isub hx hb dX10_likeness_34 ?_
    obtain ⟨g_4, hf⟩ := pgd_e hf
    refine m_rald (i := x1) hx hb hK hP rfl g_1 g_4 dX10_likeness_35 ?_
    obtain ⟨r_5, hc_6, hf⟩ := pcl_e hf
    refine m_callS2 (As := [.int (s_woodRings x1.toNatClampNeg x4.toNatClampNeg), .int (s_woodRings x1.toNatClampNeg (x4 - (1 : Int32)).toNatClampNeg)]) (rest := []) ⟨hx, hb, hml, hown, hts⟩ hX (ct_J6_compare_7cf53 l D cA (s_woodRings x1.toNatClampNeg x4.toNatClampNeg) (s_woodRings x1.toNatClampNeg (x4 - (1 : Int32)).toNatClampNeg) r_5 hc_6) (va_cwS 2 hts gX10_likeness_J6_compare_7cf53 rfl rfl rfl (by decide +kernel) ⟨Nat.le_of_ble_eq_true rfl, Nat.le_of_ble_eq_true rfl⟩) hP hD hS hA [] [0, 1, 2, 3, 4, 5, 6, 7] 8 (by decide) rfl rfl (WS' := (w_X10_likeness a0 q_woodCounts q_livingRings q_woodRings q_ends r_woodRings cA s_livingCount s_firstYear s_woodCounts s_livingRings s_woodRings)) (WR := [(a0, .inr (10, [.ref q_livingRings, .ref q_woodRings, .ref q_woodCounts, .ref q_ends, .int s_livingCount, .int s_firstYear])), (q_woodCounts, .inl (cA 1, 4, .inl s_woodCounts)), (q_livingRings, .inl (cA 1, 60, .inl s_livingRings)), (q_woodRings, .inl (cA 5, 4, .inr (.inr (.inr (.inr (gro 4 r_woodRings))))))] ++ grw 4 r_woodRings (cA 1) 30 s_woodRings) rfl rfl rfl rfl (by decide) (by decide) rfl hl.1 rfl (st' := [.int r_5]) rfl (Nat.le_of_ble_eq_true rfl) ⟨Nat.zero_le _, Nat.zero_le _⟩ dX10_likeness_36 (fun H locs hP hD hS => ?_)
    refine lv_istore (lv' := [(5, .int r_5), (0, .ref a0), (1, .int x1), (2, .int x2), (3, .int x3), (4, .int x4)]) hx hb dX10_likeness_39 hl (by decide) rfl (fun ls hl => ?_)
    refine lv_iload hx hb dX10_likeness_41 (lv_at hl 0 rfl) ?_
    refine lv_aload_n hx hb dX10_likeness_43 rfl (lv_at hl 1 rfl) ?_
    refine va_get (D := D) (ci := 10) (v := .ref q_livingRings) (C := RX10) (T := TX10) (N := 6) hx hb hts hn_X10_likeness_X10 hown hK hP 0 rfl rfl 0 (by decide) (hts _ hw_X10_likeness_f9) (fun _ h9 => h9) rfl dX10_likeness_44 ?_
    refine lv_iload_n hx hb dX10_likeness_47 rfl (lv_at hl 3 rfl) ?_
    refine lv_iload hx hb dX10_likeness_48 (lv_at hl 5 rfl) ?_
    refine lv_iadd hx hb dX10_likeness_50 ?_
    obtain ⟨g_7, hf⟩ := pgd_e hf
    refine va_iald hx hb hK hP 2 1 rfl rfl g_7 dX10_likeness_51 ?_
    refine lv_aload_n hx hb dX10_likeness_52 rfl (lv_at hl 1 rfl) ?_
    refine va_get (D := D) (ci := 10) (v := .ref q_livingRings) (C := RX10) (T := TX10) (N := 6) hx hb hts hn_X10_likeness_X10 hown hK hP 0 rfl rfl 0 (by decide) (hts _ hw_X10_likeness_f9) (fun _ h9 => h9) rfl dX10_likeness_53 ?_
    refine lv_iload_n hx hb dX10_likeness_56 rfl (lv_at hl 3 rfl) ?_
    refine lv_iload hx hb dX10_likeness_57 (lv_at hl 5 rfl) ?_
    refine lv_iadd hx hb dX10_likeness_59 ?_
    refine lv_iconst (v := (1 : Int32)) hx hb dX10_likeness_60 (by decide) ?_
    refine lv_isub hx hb dX10_likeness_61 ?_
    obtain ⟨g_8, hf⟩ := pgd_e hf
    refine va_iald hx hb hK hP 2 1 rfl rfl g_8 dX10_likeness_62 ?_
    obtain ⟨r_9, hc_10, hf⟩ := pcl_e hf
    refine m_callS2 (As := [.int (s_livingRings (x2 + x4).toNatClampNeg), .int (s_livingRings ((x2 + x4) - (1 : Int32)).toNatClampNeg)]) (rest := [.int r_5]) ⟨hx, hb, hml, hown, hts⟩ hX (ct_J6_compare_7cf53 l D cA (s_livingRings (x2 + x4).toNatClampNeg) (s_livingRings ((x2 + x4) - (1 : Int32)).toNatClampNeg) r_9 hc_10) (va_cwS 2 hts gX10_likeness_J6_compare_7cf53 rfl rfl rfl (by decide +kernel) ⟨Nat.le_of_ble_eq_true rfl, Nat.le_of_ble_eq_true rfl⟩) hP hD hS hA [] [0, 1, 2, 3, 4, 5, 6, 7] 8 (by decide) rfl rfl (WS' := (w_X10_likeness a0 q_woodCounts q_livingRings q_woodRings q_ends r_woodRings cA s_livingCount s_firstYear s_woodCounts s_livingRings s_woodRings)) (WR := [(a0, .inr (10, [.ref q_livingRings, .ref q_woodRings, .ref q_woodCounts, .ref q_ends, .int s_livingCount, .int s_firstYear])), (q_woodCounts, .inl (cA 1, 4, .inl s_woodCounts)), (q_livingRings, .inl (cA 1, 60, .inl s_livingRings)), (q_woodRings, .inl (cA 5, 4, .inr (.inr (.inr (.inr (gro 4 r_woodRings))))))] ++ grw 4 r_woodRings (cA 1) 30 s_woodRings) rfl rfl rfl rfl (by decide) (by decide) rfl hl.1 rfl (st' := [.int r_9, .int r_5]) rfl (Nat.le_of_ble_eq_true rfl) ⟨Nat.zero_le _, Nat.zero_le _⟩ dX10_likeness_63 (fun H locs hP hD hS => ?_)
    refine lv_icmp_ne (tgt := 72) hx hb dX10_likeness_66 (by decide) (fun c_11 => ?_) (fun c_11 => ?_)
    · have hf := pbr_f c_11 hf
      obtain ⟨x4_12, ex4_12⟩ : ∃ z : Int32, z = x4 + (1 : Int32) := ⟨_, rfl⟩
      have hf := plt_e ex4_12 hf
      refine lv_iinc (v := x4_12) (lv' := [(4, .int x4_12), (5, .int r_5), (0, .ref a0), (1, .int x1), (2, .int x2), (3, .int x3)]) hx hb dX10_likeness_72 hl (k := 5) rfl (by rw [ex4_12]; rfl) (by decide) rfl (fun ls hl => ?_)
      refine lv_goto (tgt := 5) hx hb dX10_likeness_75 (by decide) ?_
      exact ih x3 x4_12 hf _ _ hP hD hS ls (lv_sub hl [2, 3, 4, 5, 0] rfl)
    have hf := pbr_t c_11 hf
    obtain ⟨x3_13, ex3_13⟩ : ∃ z : Int32, z = x3 + (1 : Int32) := ⟨_, rfl⟩
    have hf := plt_e ex3_13 hf
    refine lv_iinc (v := x3_13) (lv' := [(3, .int x3_13), (5, .int r_5), (0, .ref a0), (1, .int x1), (2, .int x2), (4, .int x4)]) hx hb dX10_likeness_69 hl (k := 4) rfl (by rw [ex3_13]; rfl) (by decide) rfl (fun ls hl => ?_)
    obtain ⟨x4_14, ex4_14⟩ : ∃ z : Int32, z = x4 + (1 : Int32) := ⟨_, rfl⟩
    have hf := plt_e ex4_14 hf
    refine lv_iinc (v := x4_14) (lv' := [(4, .int x4_14), (3, .int x3_13), (5, .int r_5), (0, .ref a0), (1, .int x1), (2, .int x2)]) hx hb dX10_likeness_72 hl (k := 5) rfl (by rw [ex4_14]; rfl) (by decide) rfl (fun ls hl => ?_)
    refine lv_goto (tgt := 5) hx hb dX10_likeness_75 (by decide) ?_
    exact ih x3_13 x4_14 hf _ _ hP hD hS ls (lv_sub hl [3, 4, 5, 1, 0] rfl)

def f_X10_likeness (x1 : Int32) (x2 : Int32) (s_woodCounts : Nat → Int32) (s_livingRings : Nat → Int32) (s_woodRings : Nat → Nat → Int32) : Option ((Int32)) :=
  f_X10_likeness_5 s_woodCounts s_livingRings s_woodRings x1 x2 FU (0 : Int32) (1 : Int32)

set_option maxRecDepth 100000 in
set_option maxHeartbeats 4000000 in
theorem ct_X10_likeness (l : Launch) (D : va_G) (cA : Nat → ClassId) (x1 : Int32) (x2 : Int32) (a0 : Nat) (q_woodCounts : Nat) (q_livingRings : Nat) (q_woodRings : Nat) (q_ends : Nat) (r_woodRings : Nat → Nat) (s_livingCount : Int32) (s_firstYear : Int32) (s_woodCounts : Nat → Int32) (s_livingRings : Nat → Int32) (s_woodRings : Nat → Nat → Int32) (o_r : Int32) (hf : f_X10_likeness x1 x2 s_woodCounts s_livingRings s_woodRings = some o_r) : CT l yX10_likeness wsX10_likeness rm_X10_likeness D cA [.ref a0, .int x1, .int x2] (w_X10_likeness a0 q_woodCounts q_livingRings q_woodRings q_ends r_woodRings cA s_livingCount s_firstYear s_woodCounts s_livingRings s_woodRings) (w_X10_likeness a0 q_woodCounts q_livingRings q_woodRings q_ends r_woodRings cA s_livingCount s_firstYear s_woodCounts s_livingRings s_woodRings) (some (.int o_r)) := by
  refine CT.ofW (cc := cX10_likeness) (maxL := 6) (ret := (some .int)) (by decide +kernel) rfl (Nat.le_of_ble_eq_true rfl) ?_
  intro p e s m below meth c A C0 hA hP hD ls hl
  have C0 : MX p s m [.ref a0, .int x1, .int x2].toArray meth c cX10_likeness 6 wsX10_likeness RX10 (some .int) D cA := C0
  have hl : lv_has ls 6 [(0, .ref a0), (1, .int x1), (2, .int x2)] := hl
  obtain ⟨hx, hb, hml, hown, hts, hr, hlocks, hX⟩ := id C0
  have hK := hX.1
  have hN := hX.2
  have hS : va_S A s.heap s.heap [] := va_S.rf
  unfold f_X10_likeness at hf
  refine lv_iconst (v := (0 : Int32)) hx hb dX10_likeness_0 (by decide) ?_
  refine lv_istore_n (lv' := [(3, .int (0 : Int32)), (0, .ref a0), (1, .int x1), (2, .int x2)]) hx hb dX10_likeness_1 rfl hl (by decide) rfl (fun ls hl => ?_)
  refine lv_iconst (v := (1 : Int32)) hx hb dX10_likeness_2 (by decide) ?_
  refine lv_istore (lv' := [(4, .int (1 : Int32)), (3, .int (0 : Int32)), (0, .ref a0), (1, .int x1), (2, .int x2)]) hx hb dX10_likeness_3 hl (by decide) rfl (fun ls hl => ?_)
  exact k_X10_likeness_5 C0 hA FU (0 : Int32) (1 : Int32) hf _ _ hP hD hS ls (lv_sub hl [2, 3, 4, 1, 0] rfl)

/-! ===== OrphanWave$Trees.laidOn(I)I ===== -/
abbrev rm_X10_laidOn : Room := { frames := 2, cells := 0, slots := 0, locals := 46 }
abbrev wx_X10_laidOn (a0 : Nat) (q_woodCounts : Nat) (q_livingRings : Nat) (q_woodRings : Nat) (q_ends : Nat) (r_woodRings : Nat → Nat) (cA : Nat → ClassId) (s_livingCount : Int32) (s_firstYear : Int32) (s_woodCounts : Nat → Int32) (s_livingRings : Nat → Int32) (s_woodRings : Nat → Nat → Int32) : va_W := [(a0, .inr (10, [.ref q_livingRings, .ref q_woodRings, .ref q_woodCounts, .ref q_ends, .int s_livingCount, .int s_firstYear])), (q_woodCounts, .inl (cA 1, 4, .inl s_woodCounts)), (q_livingRings, .inl (cA 1, 60, .inl s_livingRings)), (q_woodRings, .inl (cA 5, 4, .inr (.inr (.inr (.inr (gro 4 r_woodRings))))))]
abbrev w_X10_laidOn (a0 : Nat) (q_woodCounts : Nat) (q_livingRings : Nat) (q_woodRings : Nat) (q_ends : Nat) (r_woodRings : Nat → Nat) (cA : Nat → ClassId) (s_livingCount : Int32) (s_firstYear : Int32) (s_woodCounts : Nat → Int32) (s_livingRings : Nat → Int32) (s_woodRings : Nat → Nat → Int32) : va_W := [(a0, .inr (10, [.ref q_livingRings, .ref q_woodRings, .ref q_woodCounts, .ref q_ends, .int s_livingCount, .int s_firstYear])), (q_woodCounts, .inl (cA 1, 4, .inl s_woodCounts)), (q_livingRings, .inl (cA 1, 60, .inl s_livingRings)), (q_woodRings, .inl (cA 5, 4, .inr (.inr (.inr (.inr (gro 4 r_woodRings))))))] ++ grw 4 r_woodRings (cA 1) 30 s_woodRings
theorem hn_X10_laidOn_X10 : ∀ w ∈ u_ws RX10 TX10 6, w ∈ wsX10_laidOn := by decide +kernel
theorem hw_X10_laidOn_f20 : Cond.fieldLink RX10 20 "OrphanWave$Trees" "woodCounts" "[I" ∈ wsX10_laidOn := by decide +kernel
theorem hw_X10_laidOn_f30 : Cond.fieldLink RX10 30 "OrphanWave$Trees" "livingCount" "I" ∈ wsX10_laidOn := by decide +kernel

def f_X10_laidOn_20 (s_livingCount : Int32) (s_woodCounts : Nat → Int32) (s_livingRings : Nat → Int32) (s_woodRings : Nat → Nat → Int32) (x1 : Int32) : Nat → (Int32) → (Int32) → (Int32) → Option ((Int32))
  | 0, _, _, _ => none
  | k + 1, x2, x3, x4 =>
    pgd (pin x1 4) (
    pbr ((s_livingCount - (s_woodCounts x1.toNatClampNeg)) < x4)
      (some (x2))
      (pcl (f_X10_likeness x1 x4 s_woodCounts s_livingRings s_woodRings) (fun r_3 => (
      pbr (r_3 ≤ x3)
        (plt (x4 + (1 : Int32) : Int32) (fun x4_6 => (
        (f_X10_laidOn_20 s_livingCount s_woodCounts s_livingRings s_woodRings x1 k) x2 x3 x4_6)))
        (plt (x4 + (1 : Int32) : Int32) (fun x4_7 => (
        (f_X10_laidOn_20 s_livingCount s_woodCounts s_livingRings s_woodRings x1 k) x4 r_3 x4_7)))))))

set_option maxRecDepth 100000 in
set_option maxHeartbeats 4000000 in
theorem k_X10_laidOn_20 {p : Program} {l : Launch} {e : Env} {s : State} {m : MethodId} {args : Array Value} {below : List Frame} {meth : Method} {c : Code} {A : Nat → Prop} {D : va_G} {cA : Nat → ClassId} (C0 : MX p s m args meth c cX10_laidOn 6 wsX10_laidOn RX10 (some .int) D cA) (hA : ∀ q, s.heap.size ≤ q → A q) {a0 : Nat} {q_woodCounts : Nat} {q_livingRings : Nat} {q_woodRings : Nat} {q_ends : Nat} {r_woodRings : Nat → Nat} {s_livingCount : Int32} {s_firstYear : Int32} {s_woodCounts : Nat → Int32} {s_livingRings : Nat → Int32} {s_woodRings : Nat → Nat → Int32} {x1 : Int32} {o_r : Int32} : ∀ (k : Nat) (x2 : Int32) (x3 : Int32) (x4 : Int32), f_X10_laidOn_20 s_livingCount s_woodCounts s_livingRings s_woodRings x1 k x2 x3 x4 = some o_r → ∀ (H : Heap) (locs : List Loc), va_P D vwCl (w_X10_laidOn a0 q_woodCounts q_livingRings q_woodRings q_ends r_woodRings cA s_livingCount s_firstYear s_woodCounts s_livingRings s_woodRings) H → va_D A (w_X10_laidOn a0 q_woodCounts q_livingRings q_woodRings q_ends r_woodRings cA s_livingCount s_firstYear s_woodCounts s_livingRings s_woodRings) → va_S A s.heap H locs → ∀ ls : Array Slot, lv_has ls 6 [(0, .ref a0), (1, .int x1), (2, .int x2), (3, .int x3), (4, .int x4)] → W p l e rm_X10_laidOn s m args below meth c H locs 0 0 (MQ below (CQ D (some (.int o_r)) (w_X10_laidOn a0 q_woodCounts q_livingRings q_woodRings q_ends r_woodRings cA s_livingCount s_firstYear s_woodCounts s_livingRings s_woodRings) A) args s 0 0 A) (F0 m 20 ls []) := by
  obtain ⟨hx, hb, hml, hown, hts, hr, hlocks, hX⟩ := C0
  have hK := hX.1
  have hN := hX.2
  intro k
  induction k with
  | zero =>
    intro x2 x3 x4 hf
    cases hf
  | succ k ih =>
    intro x2 x3 x4 hf H locs hP hD hS ls hl
    rw [f_X10_laidOn_20] at hf
    refine lv_iload hx hb dX10_laidOn_20 (lv_at hl 4 rfl) ?_
    refine lv_aload_n hx hb dX10_laidOn_22 rfl (lv_at hl 0 rfl) ?_
    refine va_get (D := D) (ci := 10) (v := .int s_livingCount) (C := RX10) (T := TX10) (N := 6) hx hb hts hn_X10_laidOn_X10 hown hK hP 0 rfl rfl 4 (by decide) (hts _ hw_X10_laidOn_f30) (fun _ h9 => h9) rfl dX10_laidOn_23 ?_
    refine lv_aload_n hx hb dX10_laidOn_26 rfl (lv_at hl 0 rfl) ?_
    refine va_get (D := D) (ci := 10) (v := .ref q_woodCounts) (C := RX10) (T := TX10) (N := 6) hx hb hts hn_X10_laidOn_X10 hown hK hP 0 rfl rfl 2 (by decide) (hts _ hw_X10_laidOn_f20) (fun _ h9 => h9) rfl dX10_laidOn_27 ?_
    refine lv_iload_n hx hb dX10_laidOn_30 rfl (lv_at hl 1 rfl) ?_
    obtain ⟨g_1, hf⟩ := pgd_e hf
    refine va_iald hx hb hK hP 1 1 rfl rfl g_1 dX10_laidOn_31 ?_
    refine lv_isub hx hb dX10_laidOn_32 ?_
    refine lv_icmp_gt (tgt := 63) hx hb dX10_laidOn_33 (by decide) (fun c_2 => ?_) (fun c_2 => ?_)
    · have hf := pbr_t c_2 hf
      refine lv_iload_n hx hb dX10_laidOn_63 rfl (lv_at hl 2 rfl) ?_
      obtain rfl := pe1 hf
      exact m_iret hx hb hr hlocks hP hS dX10_laidOn_64
    have hf := pbr_f c_2 hf
    refine lv_aload_n hx hb dX10_laidOn_36 rfl (lv_at hl 0 rfl) ?_
    refine lv_iload_n hx hb dX10_laidOn_37 rfl (lv_at hl 1 rfl) ?_
    refine lv_iload hx hb dX10_laidOn_38 (lv_at hl 4 rfl) ?_
    obtain ⟨r_3, hc_4, hf⟩ := pcl_e hf
    refine m_callV2 (As := [.int x1, .int x4]) (rest := []) ⟨hx, hb, hml, hown, hts⟩ hX (ct_X10_likeness l D cA x1 x4 a0 q_woodCounts q_livingRings q_woodRings q_ends r_woodRings s_livingCount s_firstYear s_woodCounts s_livingRings s_woodRings r_3 hc_4) (cwV 2 hts gX10_laidOn_X10_likeness rfl rfl rfl (by decide +kernel) ⟨Nat.le_of_ble_eq_true rfl, Nat.le_of_ble_eq_true rfl⟩) hP hD hS hA [0, 1, 2, 3, 4, 5, 6, 7] [] 8 (by decide) rfl rfl (WS' := (w_X10_laidOn a0 q_woodCounts q_livingRings q_woodRings q_ends r_woodRings cA s_livingCount s_firstYear s_woodCounts s_livingRings s_woodRings)) (WR := []) rfl rfl rfl rfl (by decide) (by decide) 0 10 rfl rfl rfl hl.1 rfl (st' := [.int r_3]) rfl (Nat.le_of_ble_eq_true rfl) ⟨Nat.zero_le _, Nat.zero_le _⟩ dX10_laidOn_40 (fun H locs hP hD hS => ?_)
    refine lv_istore (lv' := [(5, .int r_3), (0, .ref a0), (1, .int x1), (2, .int x2), (3, .int x3), (4, .int x4)]) hx hb dX10_laidOn_43 hl (by decide) rfl (fun ls hl => ?_)
    refine lv_iload hx hb dX10_laidOn_45 (lv_at hl 0 rfl) ?_
    refine lv_iload_n hx hb dX10_laidOn_47 rfl (lv_at hl 4 rfl) ?_
    refine lv_icmp_le (tgt := 57) hx hb dX10_laidOn_48 (by decide) (fun c_5 => ?_) (fun c_5 => ?_)
    · have hf := pbr_t c_5 hf
      obtain ⟨x4_6, ex4_6⟩ : ∃ z : Int32, z = x4 + (1 : Int32) := ⟨_, rfl⟩
      have hf := plt_e ex4_6 hf
      refine lv_iinc (v := x4_6) (lv' := [(4, .int x4_6), (5, .int r_3), (0, .ref a0), (1, .int x1), (2, .int x2), (3, .int x3)]) hx hb dX10_laidOn_57 hl (k := 5) rfl (by rw [ex4_6]; rfl) (by decide) rfl (fun ls hl => ?_)
      refine lv_goto (tgt := 20) hx hb dX10_laidOn_60 (by decide) ?_
      exact ih x2 x3 x4_6 hf _ _ hP hD hS ls (lv_sub hl [2, 3, 4, 5, 0] rfl)
    have hf := pbr_f c_5 hf
    refine lv_iload hx hb dX10_laidOn_51 (lv_at hl 0 rfl) ?_
    refine lv_istore_n (lv' := [(3, .int r_3), (5, .int r_3), (0, .ref a0), (1, .int x1), (2, .int x2), (4, .int x4)]) hx hb dX10_laidOn_53 rfl hl (by decide) rfl (fun ls hl => ?_)
    refine lv_iload hx hb dX10_laidOn_54 (lv_at hl 5 rfl) ?_
    refine lv_istore_n (lv' := [(2, .int x4), (3, .int r_3), (5, .int r_3), (0, .ref a0), (1, .int x1), (4, .int x4)]) hx hb dX10_laidOn_56 rfl hl (by decide) rfl (fun ls hl => ?_)
    obtain ⟨x4_7, ex4_7⟩ : ∃ z : Int32, z = x4 + (1 : Int32) := ⟨_, rfl⟩
    have hf := plt_e ex4_7 hf
    refine lv_iinc (v := x4_7) (lv' := [(4, .int x4_7), (2, .int x4), (3, .int r_3), (5, .int r_3), (0, .ref a0), (1, .int x1)]) hx hb dX10_laidOn_57 hl (k := 5) rfl (by rw [ex4_7]; rfl) (by decide) rfl (fun ls hl => ?_)
    refine lv_goto (tgt := 20) hx hb dX10_laidOn_60 (by decide) ?_
    exact ih x4 r_3 x4_7 hf _ _ hP hD hS ls (lv_sub hl [4, 5, 1, 2, 0] rfl)

def f_X10_laidOn (x1 : Int32) (s_livingCount : Int32) (s_woodCounts : Nat → Int32) (s_livingRings : Nat → Int32) (s_woodRings : Nat → Nat → Int32) : Option ((Int32)) :=
  pgd (pin x1 4) (
  pbr ((2 : Int32) ≤ (s_woodCounts x1.toNatClampNeg))
    (f_X10_laidOn_20 s_livingCount s_woodCounts s_livingRings s_woodRings x1 FU (-9 : Int32) (-1 : Int32) (0 : Int32))
    (some ((-9 : Int32))))

set_option maxRecDepth 100000 in
set_option maxHeartbeats 4000000 in
theorem ct_X10_laidOn (l : Launch) (D : va_G) (cA : Nat → ClassId) (x1 : Int32) (a0 : Nat) (q_woodCounts : Nat) (q_livingRings : Nat) (q_woodRings : Nat) (q_ends : Nat) (r_woodRings : Nat → Nat) (s_livingCount : Int32) (s_firstYear : Int32) (s_woodCounts : Nat → Int32) (s_livingRings : Nat → Int32) (s_woodRings : Nat → Nat → Int32) (o_r : Int32) (hf : f_X10_laidOn x1 s_livingCount s_woodCounts s_livingRings s_woodRings = some o_r) : CT l yX10_laidOn wsX10_laidOn rm_X10_laidOn D cA [.ref a0, .int x1] (w_X10_laidOn a0 q_woodCounts q_livingRings q_woodRings q_ends r_woodRings cA s_livingCount s_firstYear s_woodCounts s_livingRings s_woodRings) (w_X10_laidOn a0 q_woodCounts q_livingRings q_woodRings q_ends r_woodRings cA s_livingCount s_firstYear s_woodCounts s_livingRings s_woodRings) (some (.int o_r)) := by
  refine CT.ofW (cc := cX10_laidOn) (maxL := 6) (ret := (some .int)) (by decide +kernel) rfl (Nat.le_of_ble_eq_true rfl) ?_
  intro p e s m below meth c A C0 hA hP hD ls hl
  have C0 : MX p s m [.ref a0, .int x1].toArray meth c cX10_laidOn 6 wsX10_laidOn RX10 (some .int) D cA := C0
  have hl : lv_has ls 6 [(0, .ref a0), (1, .int x1)] := hl
  obtain ⟨hx, hb, hml, hown, hts, hr, hlocks, hX⟩ := id C0
  have hK := hX.1
  have hN := hX.2
  have hS : va_S A s.heap s.heap [] := va_S.rf
  unfold f_X10_laidOn at hf
  refine lv_bipush (v := (-9 : Int32)) hx hb dX10_laidOn_0 (by decide) ?_
  refine lv_istore_n (lv' := [(2, .int (-9 : Int32)), (0, .ref a0), (1, .int x1)]) hx hb dX10_laidOn_2 rfl hl (by decide) rfl (fun ls hl => ?_)
  refine lv_iconst (v := (-1 : Int32)) hx hb dX10_laidOn_3 (by decide) ?_
  refine lv_istore_n (lv' := [(3, .int (-1 : Int32)), (2, .int (-9 : Int32)), (0, .ref a0), (1, .int x1)]) hx hb dX10_laidOn_4 rfl hl (by decide) rfl (fun ls hl => ?_)
  refine lv_aload_n hx hb dX10_laidOn_5 rfl (lv_at hl 2 rfl) ?_
  refine va_get (D := D) (ci := 10) (v := .ref q_woodCounts) (C := RX10) (T := TX10) (N := 6) hx hb hts hn_X10_laidOn_X10 hown hK hP 0 rfl rfl 2 (by decide) (hts _ hw_X10_laidOn_f20) (fun _ h9 => h9) rfl dX10_laidOn_6 ?_
  refine lv_iload_n hx hb dX10_laidOn_9 rfl (lv_at hl 3 rfl) ?_
  obtain ⟨g_1, hf⟩ := pgd_e hf
  refine va_iald hx hb hK hP 1 1 rfl rfl g_1 dX10_laidOn_10 ?_
  refine lv_iconst (v := (2 : Int32)) hx hb dX10_laidOn_11 (by decide) ?_
  refine lv_icmp_ge (tgt := 17) hx hb dX10_laidOn_12 (by decide) (fun c_2 => ?_) (fun c_2 => ?_)
  · have hf := pbr_t c_2 hf
    refine lv_iconst (v := (0 : Int32)) hx hb dX10_laidOn_17 (by decide) ?_
    refine lv_istore (lv' := [(4, .int (0 : Int32)), (3, .int (-1 : Int32)), (2, .int (-9 : Int32)), (0, .ref a0), (1, .int x1)]) hx hb dX10_laidOn_18 hl (by decide) rfl (fun ls hl => ?_)
    exact k_X10_laidOn_20 C0 hA FU (-9 : Int32) (-1 : Int32) (0 : Int32) hf _ _ hP hD hS ls (lv_sub hl [3, 4, 2, 1, 0] rfl)
  have hf := pbr_f c_2 hf
  refine lv_iload_n hx hb dX10_laidOn_15 rfl (lv_at hl 1 rfl) ?_
  obtain rfl := pe1 hf
  exact m_iret hx hb hr hlocks hP hS dX10_laidOn_16
