/-! ===== new OrphanWave$Text()V ===== -/
abbrev rm_X9_init : Room := { frames := 1, cells := 1, slots := 400, locals := 12 }
theorem hn_X9_init_X9 : ∀ w ∈ u_ws RX9 TX9 2, w ∈ wsX9_init := by decide +kernel
theorem hw_X9_init_m3 : Cond.methodLink RX9 3 objectInit ∈ wsX9_init := by decide +kernel
theorem hw_X9_init_ioi : Cond.instanceMethod objectInit ∈ wsX9_init := by decide +kernel
theorem hw_X9_init_koi : Cond.code objectInit ⟨#[0xb1]⟩ 1 none ∈ wsX9_init := by decide +kernel
theorem hw_X9_init_acB : Cond.arrayClass .byte ∈ wsX9_init := by decide +kernel
theorem hw_X9_init_f9 : Cond.fieldLink RX9 9 "OrphanWave$Text" "bytes" "[B" ∈ wsX9_init := by decide +kernel
set_option maxRecDepth 100000 in
set_option maxHeartbeats 4000000 in
theorem ci_X9_init (l : Launch) (D : va_G) (cA : Nat → ClassId) (a0 : Nat) : CTI l yX9_init wsX9_init rm_X9_init D cA [.ref a0] [(a0, .inr (9, [.null, .int 0]))] (fun u : FR => [(a0, .inr (9, [.ref (u.1 0), .int 0])), ((u.1 0), .inl (cA 0, 400, .inl (fun _ => 0)))]) 1 400 := by
  refine CTI.ofW (cc := cX9_init) (maxL := 1) (by decide +kernel) rfl rfl (Nat.le_of_ble_eq_true rfl) ?_
  intro p e s m below meth c A C0 hA hP hD ls hl
  have C0 : MXI p s m [.ref a0].toArray meth c cX9_init 1 wsX9_init RX9 D cA := C0
  have hl : lv_has ls 1 [(0, .ref a0)] := hl
  obtain ⟨hx, hb, hml, hown, hts, hr, hlocks, hin, hX⟩ := C0
  have hK := hX.1.1
  have hN := hX.1.2
  have hS : va_S A s.heap s.heap [] := va_S.rf
  refine lv_aload_n hx hb dX9_init_0 rfl (lv_at hl 0 rfl) ?_
  refine W.objInit hx hb hown (hts _ hw_X9_init_m3) (hts _ hw_X9_init_ioi) (hts _ hw_X9_init_koi) rfl (by rw [hml]; exact hl.1) rfl dX9_init_1 (Nat.le_of_ble_eq_true rfl) (Nat.le_of_ble_eq_true rfl) ?_
  refine W.eq (g2 := F0 m 4 ls []) rfl ?_
  refine lv_aload_n hx hb dX9_init_4 rfl (lv_at hl 0 rfl) ?_
  refine lv_sipush (v := (400 : Int32)) hx hb dX9_init_5 (by decide) ?_
  refine m_newa (atype := .byte) (ty := .byte) (a0 := (400, .inl (fun _ => 0))) 0 rfl rfl hx hb (hts _ hw_X9_init_acB) rfl hK hP hD hS hA (fun _ => rfl) (by decide) (by decide) (by decide) (Nat.le_of_ble_eq_true rfl) (Nat.le_of_ble_eq_true rfl) dX9_init_8 (fun q8 H hP hD hS => ?_)
  have hP : va_P D vwCl [(a0, .inr (9, [.null, .int 0])), (q8, .inl (cA 0, 400, .inl (fun _ => 0)))] H := hP
  have hD : va_D A [(a0, .inr (9, [.null, .int 0])), (q8, .inl (cA 0, 400, .inl (fun _ => 0)))] := hD
  refine W.widen (k := 1) (n := 400) (by omega) (by omega) ?_
  refine va_putF (D := D) (ci := 9) (v := .ref q8) (ty := .array .byte) (C := RX9) (T := TX9) (N := 2) hx hb hts hn_X9_init_X9 tyX9 tyX9_ok nmX9 hown hK hP hD hS 0 rfl rfl 0 (by decide) (hts _ hw_X9_init_f9) (fun _ h9 => h9) rfl hin rfl (by decide +kernel) rfl rfl (Nat.le_of_ble_eq_true rfl) dX9_init_10 (fun H locs hP hD hS => ?_)
  have hP : va_P D vwCl [(a0, .inr (9, [.ref q8, .int 0])), (q8, .inl (cA 0, 400, .inl (fun _ => 0)))] H := hP
  have hD : va_D A [(a0, .inr (9, [.ref q8, .int 0])), (q8, .inl (cA 0, 400, .inl (fun _ => 0)))] := hD
  exact m_vretI (u := (fun j => [q8].getD j 0, fun k => [].getD k (fun _ => 0))) hx hb hr hlocks hP hD hS (Nat.le_of_ble_eq_true rfl) (Nat.le_of_ble_eq_true rfl) dX9_init_13
/-! ===== new OrphanWave$Ocean()V ===== -/
abbrev rm_X4_init : Room := { frames := 1, cells := 3, slots := 144, locals := 12 }
theorem hn_X4_init_X4 : ∀ w ∈ u_ws RX4 TX4 5, w ∈ wsX4_init := by decide +kernel
theorem hw_X4_init_m3 : Cond.methodLink RX4 3 objectInit ∈ wsX4_init := by decide +kernel
theorem hw_X4_init_ioi : Cond.instanceMethod objectInit ∈ wsX4_init := by decide +kernel
theorem hw_X4_init_koi : Cond.code objectInit ⟨#[0xb1]⟩ 1 none ∈ wsX4_init := by decide +kernel
theorem hw_X4_init_acI : Cond.arrayClass .int ∈ wsX4_init := by decide +kernel
theorem hw_X4_init_f9 : Cond.fieldLink RX4 9 "OrphanWave$Ocean" "depths" "[I" ∈ wsX4_init := by decide +kernel
theorem hw_X4_init_f15 : Cond.fieldLink RX4 15 "OrphanWave$Ocean" "figures" "[I" ∈ wsX4_init := by decide +kernel
theorem hw_X4_init_f18 : Cond.fieldLink RX4 18 "OrphanWave$Ocean" "times" "[I" ∈ wsX4_init := by decide +kernel
theorem hw_X4_init_f21 : Cond.fieldLink RX4 21 "OrphanWave$Ocean" "pace" "I" ∈ wsX4_init := by decide +kernel
theorem hw_X4_init_f25 : Cond.fieldLink RX4 25 "OrphanWave$Ocean" "fade" "I" ∈ wsX4_init := by decide +kernel
set_option maxRecDepth 100000 in
set_option maxHeartbeats 4000000 in
theorem ci_X4_init (l : Launch) (D : va_G) (cA : Nat → ClassId) (a0 : Nat) : CTI l yX4_init wsX4_init rm_X4_init D cA [.ref a0] [(a0, .inr (4, [.null, .null, .null, .int 0, .int 0]))] (fun u : FR => [(a0, .inr (4, [.ref (u.1 0), .ref (u.1 1), .ref (u.1 2), .int (3 : Int32), .int (100 : Int32)])), ((u.1 0), .inl (cA 1, 48, .inl (fun _ => 0))), ((u.1 1), .inl (cA 1, 48, .inl (fun _ => 0))), ((u.1 2), .inl (cA 1, 48, .inl (fun _ => 0)))]) 3 144 := by
  refine CTI.ofW (cc := cX4_init) (maxL := 1) (by decide +kernel) rfl rfl (Nat.le_of_ble_eq_true rfl) ?_
  intro p e s m below meth c A C0 hA hP hD ls hl
  have C0 : MXI p s m [.ref a0].toArray meth c cX4_init 1 wsX4_init RX4 D cA := C0
  have hl : lv_has ls 1 [(0, .ref a0)] := hl
  obtain ⟨hx, hb, hml, hown, hts, hr, hlocks, hin, hX⟩ := C0
  have hK := hX.1.1
  have hN := hX.1.2
  have hS : va_S A s.heap s.heap [] := va_S.rf
  refine lv_aload_n hx hb dX4_init_0 rfl (lv_at hl 0 rfl) ?_
  refine W.objInit hx hb hown (hts _ hw_X4_init_m3) (hts _ hw_X4_init_ioi) (hts _ hw_X4_init_koi) rfl (by rw [hml]; exact hl.1) rfl dX4_init_1 (Nat.le_of_ble_eq_true rfl) (Nat.le_of_ble_eq_true rfl) ?_
  refine W.eq (g2 := F0 m 4 ls []) rfl ?_
  refine lv_aload_n hx hb dX4_init_4 rfl (lv_at hl 0 rfl) ?_
  refine lv_bipush (v := (48 : Int32)) hx hb dX4_init_5 (by decide) ?_
  refine m_newa (atype := .int) (ty := .int) (a0 := (48, .inl (fun _ => 0))) 1 rfl rfl hx hb (hts _ hw_X4_init_acI) rfl hK hP hD hS hA (fun _ => rfl) (by decide) (by decide) (by decide) (Nat.le_of_ble_eq_true rfl) (Nat.le_of_ble_eq_true rfl) dX4_init_7 (fun q7 H hP hD hS => ?_)
  have hP : va_P D vwCl [(a0, .inr (4, [.null, .null, .null, .int 0, .int 0])), (q7, .inl (cA 1, 48, .inl (fun _ => 0)))] H := hP
  have hD : va_D A [(a0, .inr (4, [.null, .null, .null, .int 0, .int 0])), (q7, .inl (cA 1, 48, .inl (fun _ => 0)))] := hD
  refine W.widen (k := 1) (n := 48) (by omega) (by omega) ?_
  refine va_putF (D := D) (ci := 4) (v := .ref q7) (ty := .array .int) (C := RX4) (T := TX4) (N := 5) hx hb hts hn_X4_init_X4 tyX4 tyX4_ok nmX4 hown hK hP hD hS 0 rfl rfl 0 (by decide) (hts _ hw_X4_init_f9) (fun _ h9 => h9) rfl hin rfl (by decide +kernel) rfl rfl (Nat.le_of_ble_eq_true rfl) dX4_init_9 (fun H locs hP hD hS => ?_)
  have hP : va_P D vwCl [(a0, .inr (4, [.ref q7, .null, .null, .int 0, .int 0])), (q7, .inl (cA 1, 48, .inl (fun _ => 0)))] H := hP
  have hD : va_D A [(a0, .inr (4, [.ref q7, .null, .null, .int 0, .int 0])), (q7, .inl (cA 1, 48, .inl (fun _ => 0)))] := hD
  refine lv_aload_n hx hb dX4_init_12 rfl (lv_at hl 0 rfl) ?_
  refine lv_bipush (v := (48 : Int32)) hx hb dX4_init_13 (by decide) ?_
  refine m_newa (atype := .int) (ty := .int) (a0 := (48, .inl (fun _ => 0))) 1 rfl rfl hx hb (hts _ hw_X4_init_acI) rfl hK hP hD hS hA (fun _ => rfl) (by decide) (by decide) (by decide) (Nat.le_of_ble_eq_true rfl) (Nat.le_of_ble_eq_true rfl) dX4_init_15 (fun q15 H hP hD hS => ?_)
  have hP : va_P D vwCl [(a0, .inr (4, [.ref q7, .null, .null, .int 0, .int 0])), (q7, .inl (cA 1, 48, .inl (fun _ => 0))), (q15, .inl (cA 1, 48, .inl (fun _ => 0)))] H := hP
  have hD : va_D A [(a0, .inr (4, [.ref q7, .null, .null, .int 0, .int 0])), (q7, .inl (cA 1, 48, .inl (fun _ => 0))), (q15, .inl (cA 1, 48, .inl (fun _ => 0)))] := hD
  refine W.widen (k := 2) (n := 96) (by omega) (by omega) ?_
  refine va_putF (D := D) (ci := 4) (v := .ref q15) (ty := .array .int) (C := RX4) (T := TX4) (N := 5) hx hb hts hn_X4_init_X4 tyX4 tyX4_ok nmX4 hown hK hP hD hS 0 rfl rfl 1 (by decide) (hts _ hw_X4_init_f15) (fun _ h9 => h9) rfl hin rfl (by decide +kernel) rfl rfl (Nat.le_of_ble_eq_true rfl) dX4_init_17 (fun H locs hP hD hS => ?_)
  have hP : va_P D vwCl [(a0, .inr (4, [.ref q7, .ref q15, .null, .int 0, .int 0])), (q7, .inl (cA 1, 48, .inl (fun _ => 0))), (q15, .inl (cA 1, 48, .inl (fun _ => 0)))] H := hP
  have hD : va_D A [(a0, .inr (4, [.ref q7, .ref q15, .null, .int 0, .int 0])), (q7, .inl (cA 1, 48, .inl (fun _ => 0))), (q15, .inl (cA 1, 48, .inl (fun _ => 0)))] := hD
  refine lv_aload_n hx hb dX4_init_20 rfl (lv_at hl 0 rfl) ?_
  refine lv_bipush (v := (48 : Int32)) hx hb dX4_init_21 (by decide) ?_
  refine m_newa (atype := .int) (ty := .int) (a0 := (48, .inl (fun _ => 0))) 1 rfl rfl hx hb (hts _ hw_X4_init_acI) rfl hK hP hD hS hA (fun _ => rfl) (by decide) (by decide) (by decide) (Nat.le_of_ble_eq_true rfl) (Nat.le_of_ble_eq_true rfl) dX4_init_23 (fun q23 H hP hD hS => ?_)
  have hP : va_P D vwCl [(a0, .inr (4, [.ref q7, .ref q15, .null, .int 0, .int 0])), (q7, .inl (cA 1, 48, .inl (fun _ => 0))), (q15, .inl (cA 1, 48, .inl (fun _ => 0))), (q23, .inl (cA 1, 48, .inl (fun _ => 0)))] H := hP
  have hD : va_D A [(a0, .inr (4, [.ref q7, .ref q15, .null, .int 0, .int 0])), (q7, .inl (cA 1, 48, .inl (fun _ => 0))), (q15, .inl (cA 1, 48, .inl (fun _ => 0))), (q23, .inl (cA 1, 48, .inl (fun _ => 0)))] := hD
  refine W.widen (k := 3) (n := 144) (by omega) (by omega) ?_
  refine va_putF (D := D) (ci := 4) (v := .ref q23) (ty := .array .int) (C := RX4) (T := TX4) (N := 5) hx hb hts hn_X4_init_X4 tyX4 tyX4_ok nmX4 hown hK hP hD hS 0 rfl rfl 2 (by decide) (hts _ hw_X4_init_f18) (fun _ h9 => h9) rfl hin rfl (by decide +kernel) rfl rfl (Nat.le_of_ble_eq_true rfl) dX4_init_25 (fun H locs hP hD hS => ?_)
  have hP : va_P D vwCl [(a0, .inr (4, [.ref q7, .ref q15, .ref q23, .int 0, .int 0])), (q7, .inl (cA 1, 48, .inl (fun _ => 0))), (q15, .inl (cA 1, 48, .inl (fun _ => 0))), (q23, .inl (cA 1, 48, .inl (fun _ => 0)))] H := hP
  have hD : va_D A [(a0, .inr (4, [.ref q7, .ref q15, .ref q23, .int 0, .int 0])), (q7, .inl (cA 1, 48, .inl (fun _ => 0))), (q15, .inl (cA 1, 48, .inl (fun _ => 0))), (q23, .inl (cA 1, 48, .inl (fun _ => 0)))] := hD
  refine lv_aload_n hx hb dX4_init_28 rfl (lv_at hl 0 rfl) ?_
  refine lv_iconst (v := (3 : Int32)) hx hb dX4_init_29 (by decide) ?_
  refine va_put (D := D) (ci := 4) (v := .int (3 : Int32)) (ty := .int) (C := RX4) (T := TX4) (N := 5) hx hb hts hn_X4_init_X4 tyX4 tyX4_ok nmX4 hown hK hP hD hS 0 rfl rfl 3 (by decide) (hts _ hw_X4_init_f21) (fun _ h9 => h9) rfl (by decide +kernel) rfl rfl (Nat.le_of_ble_eq_true rfl) dX4_init_30 (fun H locs hP hD hS => ?_)
  have hP : va_P D vwCl [(a0, .inr (4, [.ref q7, .ref q15, .ref q23, .int (3 : Int32), .int 0])), (q7, .inl (cA 1, 48, .inl (fun _ => 0))), (q15, .inl (cA 1, 48, .inl (fun _ => 0))), (q23, .inl (cA 1, 48, .inl (fun _ => 0)))] H := hP
  have hD : va_D A [(a0, .inr (4, [.ref q7, .ref q15, .ref q23, .int (3 : Int32), .int 0])), (q7, .inl (cA 1, 48, .inl (fun _ => 0))), (q15, .inl (cA 1, 48, .inl (fun _ => 0))), (q23, .inl (cA 1, 48, .inl (fun _ => 0)))] := hD
  refine lv_aload_n hx hb dX4_init_33 rfl (lv_at hl 0 rfl) ?_
  refine lv_bipush (v := (100 : Int32)) hx hb dX4_init_34 (by decide) ?_
  refine va_put (D := D) (ci := 4) (v := .int (100 : Int32)) (ty := .int) (C := RX4) (T := TX4) (N := 5) hx hb hts hn_X4_init_X4 tyX4 tyX4_ok nmX4 hown hK hP hD hS 0 rfl rfl 4 (by decide) (hts _ hw_X4_init_f25) (fun _ h9 => h9) rfl (by decide +kernel) rfl rfl (Nat.le_of_ble_eq_true rfl) dX4_init_36 (fun H locs hP hD hS => ?_)
  have hP : va_P D vwCl [(a0, .inr (4, [.ref q7, .ref q15, .ref q23, .int (3 : Int32), .int (100 : Int32)])), (q7, .inl (cA 1, 48, .inl (fun _ => 0))), (q15, .inl (cA 1, 48, .inl (fun _ => 0))), (q23, .inl (cA 1, 48, .inl (fun _ => 0)))] H := hP
  have hD : va_D A [(a0, .inr (4, [.ref q7, .ref q15, .ref q23, .int (3 : Int32), .int (100 : Int32)])), (q7, .inl (cA 1, 48, .inl (fun _ => 0))), (q15, .inl (cA 1, 48, .inl (fun _ => 0))), (q23, .inl (cA 1, 48, .inl (fun _ => 0)))] := hD
  exact m_vretI (u := (fun j => [q7, q15, q23].getD j 0, fun k => [].getD k (fun _ => 0))) hx hb hr hlocks hP hD hS (Nat.le_of_ble_eq_true rfl) (Nat.le_of_ble_eq_true rfl) dX4_init_39
/-! ===== new OrphanWave$Books()V ===== -/
abbrev rm_X0_init : Room := { frames := 1, cells := 5, slots := 30, locals := 12 }
theorem hn_X0_init_X0 : ∀ w ∈ u_ws RX0 TX0 6, w ∈ wsX0_init := by decide +kernel
theorem hw_X0_init_m3 : Cond.methodLink RX0 3 objectInit ∈ wsX0_init := by decide +kernel
theorem hw_X0_init_ioi : Cond.instanceMethod objectInit ∈ wsX0_init := by decide +kernel
theorem hw_X0_init_koi : Cond.code objectInit ⟨#[0xb1]⟩ 1 none ∈ wsX0_init := by decide +kernel
theorem hw_X0_init_acI : Cond.arrayClass .int ∈ wsX0_init := by decide +kernel
theorem hw_X0_init_f9 : Cond.fieldLink RX0 9 "OrphanWave$Books" "cells" "[I" ∈ wsX0_init := by decide +kernel
theorem hw_X0_init_f15 : Cond.fieldLink RX0 15 "OrphanWave$Books" "froms" "[I" ∈ wsX0_init := by decide +kernel
theorem hw_X0_init_f18 : Cond.fieldLink RX0 18 "OrphanWave$Books" "tos" "[I" ∈ wsX0_init := by decide +kernel
theorem hw_X0_init_f21 : Cond.fieldLink RX0 21 "OrphanWave$Books" "lows" "[I" ∈ wsX0_init := by decide +kernel
theorem hw_X0_init_f24 : Cond.fieldLink RX0 24 "OrphanWave$Books" "highs" "[I" ∈ wsX0_init := by decide +kernel
set_option maxRecDepth 100000 in
set_option maxHeartbeats 4000000 in
theorem ci_X0_init (l : Launch) (D : va_G) (cA : Nat → ClassId) (a0 : Nat) : CTI l yX0_init wsX0_init rm_X0_init D cA [.ref a0] [(a0, .inr (0, [.null, .null, .null, .null, .null, .int 0]))] (fun u : FR => [(a0, .inr (0, [.ref (u.1 0), .ref (u.1 1), .ref (u.1 2), .ref (u.1 3), .ref (u.1 4), .int 0])), ((u.1 0), .inl (cA 1, 6, .inl (fun _ => 0))), ((u.1 1), .inl (cA 1, 6, .inl (fun _ => 0))), ((u.1 2), .inl (cA 1, 6, .inl (fun _ => 0))), ((u.1 3), .inl (cA 1, 6, .inl (fun _ => 0))), ((u.1 4), .inl (cA 1, 6, .inl (fun _ => 0)))]) 5 30 := by
  refine CTI.ofW (cc := cX0_init) (maxL := 1) (by decide +kernel) rfl rfl (Nat.le_of_ble_eq_true rfl) ?_
  intro p e s m below meth c A C0 hA hP hD ls hl
  have C0 : MXI p s m [.ref a0].toArray meth c cX0_init 1 wsX0_init RX0 D cA := C0
  have hl : lv_has ls 1 [(0, .ref a0)] := hl
  obtain ⟨hx, hb, hml, hown, hts, hr, hlocks, hin, hX⟩ := C0
  have hK := hX.1.1
  have hN := hX.1.2
  have hS : va_S A s.heap s.heap [] := va_S.rf
  refine lv_aload_n hx hb dX0_init_0 rfl (lv_at hl 0 rfl) ?_
  refine W.objInit hx hb hown (hts _ hw_X0_init_m3) (hts _ hw_X0_init_ioi) (hts _ hw_X0_init_koi) rfl (by rw [hml]; exact hl.1) rfl dX0_init_1 (Nat.le_of_ble_eq_true rfl) (Nat.le_of_ble_eq_true rfl) ?_
  refine W.eq (g2 := F0 m 4 ls []) rfl ?_
  refine lv_aload_n hx hb dX0_init_4 rfl (lv_at hl 0 rfl) ?_
  refine lv_bipush (v := (6 : Int32)) hx hb dX0_init_5 (by decide) ?_
  refine m_newa (atype := .int) (ty := .int) (a0 := (6, .inl (fun _ => 0))) 1 rfl rfl hx hb (hts _ hw_X0_init_acI) rfl hK hP hD hS hA (fun _ => rfl) (by decide) (by decide) (by decide) (Nat.le_of_ble_eq_true rfl) (Nat.le_of_ble_eq_true rfl) dX0_init_7 (fun q7 H hP hD hS => ?_)
  have hP : va_P D vwCl [(a0, .inr (0, [.null, .null, .null, .null, .null, .int 0])), (q7, .inl (cA 1, 6, .inl (fun _ => 0)))] H := hP
  have hD : va_D A [(a0, .inr (0, [.null, .null, .null, .null, .null, .int 0])), (q7, .inl (cA 1, 6, .inl (fun _ => 0)))] := hD
  refine W.widen (k := 1) (n := 6) (by omega) (by omega) ?_
  refine va_putF (D := D) (ci := 0) (v := .ref q7) (ty := .array .int) (C := RX0) (T := TX0) (N := 6) hx hb hts hn_X0_init_X0 tyX0 tyX0_ok nmX0 hown hK hP hD hS 0 rfl rfl 0 (by decide) (hts _ hw_X0_init_f9) (fun _ h9 => h9) rfl hin rfl (by decide +kernel) rfl rfl (Nat.le_of_ble_eq_true rfl) dX0_init_9 (fun H locs hP hD hS => ?_)
  have hP : va_P D vwCl [(a0, .inr (0, [.ref q7, .null, .null, .null, .null, .int 0])), (q7, .inl (cA 1, 6, .inl (fun _ => 0)))] H := hP
  have hD : va_D A [(a0, .inr (0, [.ref q7, .null, .null, .null, .null, .int 0])), (q7, .inl (cA 1, 6, .inl (fun _ => 0)))] := hD
  refine lv_aload_n hx hb dX0_init_12 rfl (lv_at hl 0 rfl) ?_
  refine lv_bipush (v := (6 : Int32)) hx hb dX0_init_13 (by decide) ?_
  refine m_newa (atype := .int) (ty := .int) (a0 := (6, .inl (fun _ => 0))) 1 rfl rfl hx hb (hts _ hw_X0_init_acI) rfl hK hP hD hS hA (fun _ => rfl) (by decide) (by decide) (by decide) (Nat.le_of_ble_eq_true rfl) (Nat.le_of_ble_eq_true rfl) dX0_init_15 (fun q15 H hP hD hS => ?_)
  have hP : va_P D vwCl [(a0, .inr (0, [.ref q7, .null, .null, .null, .null, .int 0])), (q7, .inl (cA 1, 6, .inl (fun _ => 0))), (q15, .inl (cA 1, 6, .inl (fun _ => 0)))] H := hP
  have hD : va_D A [(a0, .inr (0, [.ref q7, .null, .null, .null, .null, .int 0])), (q7, .inl (cA 1, 6, .inl (fun _ => 0))), (q15, .inl (cA 1, 6, .inl (fun _ => 0)))] := hD
  refine W.widen (k := 2) (n := 12) (by omega) (by omega) ?_
  refine va_putF (D := D) (ci := 0) (v := .ref q15) (ty := .array .int) (C := RX0) (T := TX0) (N := 6) hx hb hts hn_X0_init_X0 tyX0 tyX0_ok nmX0 hown hK hP hD hS 0 rfl rfl 1 (by decide) (hts _ hw_X0_init_f15) (fun _ h9 => h9) rfl hin rfl (by decide +kernel) rfl rfl (Nat.le_of_ble_eq_true rfl) dX0_init_17 (fun H locs hP hD hS => ?_)
  have hP : va_P D vwCl [(a0, .inr (0, [.ref q7, .ref q15, .null, .null, .null, .int 0])), (q7, .inl (cA 1, 6, .inl (fun _ => 0))), (q15, .inl (cA 1, 6, .inl (fun _ => 0)))] H := hP
  have hD : va_D A [(a0, .inr (0, [.ref q7, .ref q15, .null, .null, .null, .int 0])), (q7, .inl (cA 1, 6, .inl (fun _ => 0))), (q15, .inl (cA 1, 6, .inl (fun _ => 0)))] := hD
  refine lv_aload_n hx hb dX0_init_20 rfl (lv_at hl 0 rfl) ?_
  refine lv_bipush (v := (6 : Int32)) hx hb dX0_init_21 (by decide) ?_
  refine m_newa (atype := .int) (ty := .int) (a0 := (6, .inl (fun _ => 0))) 1 rfl rfl hx hb (hts _ hw_X0_init_acI) rfl hK hP hD hS hA (fun _ => rfl) (by decide) (by decide) (by decide) (Nat.le_of_ble_eq_true rfl) (Nat.le_of_ble_eq_true rfl) dX0_init_23 (fun q23 H hP hD hS => ?_)
  have hP : va_P D vwCl [(a0, .inr (0, [.ref q7, .ref q15, .null, .null, .null, .int 0])), (q7, .inl (cA 1, 6, .inl (fun _ => 0))), (q15, .inl (cA 1, 6, .inl (fun _ => 0))), (q23, .inl (cA 1, 6, .inl (fun _ => 0)))] H := hP
  have hD : va_D A [(a0, .inr (0, [.ref q7, .ref q15, .null, .null, .null, .int 0])), (q7, .inl (cA 1, 6, .inl (fun _ => 0))), (q15, .inl (cA 1, 6, .inl (fun _ => 0))), (q23, .inl (cA 1, 6, .inl (fun _ => 0)))] := hD
  refine W.widen (k := 3) (n := 18) (by omega) (by omega) ?_
  refine va_putF (D := D) (ci := 0) (v := .ref q23) (ty := .array .int) (C := RX0) (T := TX0) (N := 6) hx hb hts hn_X0_init_X0 tyX0 tyX0_ok nmX0 hown hK hP hD hS 0 rfl rfl 2 (by decide) (hts _ hw_X0_init_f18) (fun _ h9 => h9) rfl hin rfl (by decide +kernel) rfl rfl (Nat.le_of_ble_eq_true rfl) dX0_init_25 (fun H locs hP hD hS => ?_)
  have hP : va_P D vwCl [(a0, .inr (0, [.ref q7, .ref q15, .ref q23, .null, .null, .int 0])), (q7, .inl (cA 1, 6, .inl (fun _ => 0))), (q15, .inl (cA 1, 6, .inl (fun _ => 0))), (q23, .inl (cA 1, 6, .inl (fun _ => 0)))] H := hP
  have hD : va_D A [(a0, .inr (0, [.ref q7, .ref q15, .ref q23, .null, .null, .int 0])), (q7, .inl (cA 1, 6, .inl (fun _ => 0))), (q15, .inl (cA 1, 6, .inl (fun _ => 0))), (q23, .inl (cA 1, 6, .inl (fun _ => 0)))] := hD
  refine lv_aload_n hx hb dX0_init_28 rfl (lv_at hl 0 rfl) ?_
  refine lv_bipush (v := (6 : Int32)) hx hb dX0_init_29 (by decide) ?_
  refine m_newa (atype := .int) (ty := .int) (a0 := (6, .inl (fun _ => 0))) 1 rfl rfl hx hb (hts _ hw_X0_init_acI) rfl hK hP hD hS hA (fun _ => rfl) (by decide) (by decide) (by decide) (Nat.le_of_ble_eq_true rfl) (Nat.le_of_ble_eq_true rfl) dX0_init_31 (fun q31 H hP hD hS => ?_)
  have hP : va_P D vwCl [(a0, .inr (0, [.ref q7, .ref q15, .ref q23, .null, .null, .int 0])), (q7, .inl (cA 1, 6, .inl (fun _ => 0))), (q15, .inl (cA 1, 6, .inl (fun _ => 0))), (q23, .inl (cA 1, 6, .inl (fun _ => 0))), (q31, .inl (cA 1, 6, .inl (fun _ => 0)))] H := hP
  have hD : va_D A [(a0, .inr (0, [.ref q7, .ref q15, .ref q23, .null, .null, .int 0])), (q7, .inl (cA 1, 6, .inl (fun _ => 0))), (q15, .inl (cA 1, 6, .inl (fun _ => 0))), (q23, .inl (cA 1, 6, .inl (fun _ => 0))), (q31, .inl (cA 1, 6, .inl (fun _ => 0)))] := hD
  refine W.widen (k := 4) (n := 24) (by omega) (by omega) ?_
  refine va_putF (D := D) (ci := 0) (v := .ref q31) (ty := .array .int) (C := RX0) (T := TX0) (N := 6) hx hb hts hn_X0_init_X0 tyX0 tyX0_ok nmX0 hown hK hP hD hS 0 rfl rfl 3 (by decide) (hts _ hw_X0_init_f21) (fun _ h9 => h9) rfl hin rfl (by decide +kernel) rfl rfl (Nat.le_of_ble_eq_true rfl) dX0_init_33 (fun H locs hP hD hS => ?_)
  have hP : va_P D vwCl [(a0, .inr (0, [.ref q7, .ref q15, .ref q23, .ref q31, .null, .int 0])), (q7, .inl (cA 1, 6, .inl (fun _ => 0))), (q15, .inl (cA 1, 6, .inl (fun _ => 0))), (q23, .inl (cA 1, 6, .inl (fun _ => 0))), (q31, .inl (cA 1, 6, .inl (fun _ => 0)))] H := hP
  have hD : va_D A [(a0, .inr (0, [.ref q7, .ref q15, .ref q23, .ref q31, .null, .int 0])), (q7, .inl (cA 1, 6, .inl (fun _ => 0))), (q15, .inl (cA 1, 6, .inl (fun _ => 0))), (q23, .inl (cA 1, 6, .inl (fun _ => 0))), (q31, .inl (cA 1, 6, .inl (fun _ => 0)))] := hD
  refine lv_aload_n hx hb dX0_init_36 rfl (lv_at hl 0 rfl) ?_
  refine lv_bipush (v := (6 : Int32)) hx hb dX0_init_37 (by decide) ?_
  refine m_newa (atype := .int) (ty := .int) (a0 := (6, .inl (fun _ => 0))) 1 rfl rfl hx hb (hts _ hw_X0_init_acI) rfl hK hP hD hS hA (fun _ => rfl) (by decide) (by decide) (by decide) (Nat.le_of_ble_eq_true rfl) (Nat.le_of_ble_eq_true rfl) dX0_init_39 (fun q39 H hP hD hS => ?_)
  have hP : va_P D vwCl [(a0, .inr (0, [.ref q7, .ref q15, .ref q23, .ref q31, .null, .int 0])), (q7, .inl (cA 1, 6, .inl (fun _ => 0))), (q15, .inl (cA 1, 6, .inl (fun _ => 0))), (q23, .inl (cA 1, 6, .inl (fun _ => 0))), (q31, .inl (cA 1, 6, .inl (fun _ => 0))), (q39, .inl (cA 1, 6, .inl (fun _ => 0)))] H := hP
  have hD : va_D A [(a0, .inr (0, [.ref q7, .ref q15, .ref q23, .ref q31, .null, .int 0])), (q7, .inl (cA 1, 6, .inl (fun _ => 0))), (q15, .inl (cA 1, 6, .inl (fun _ => 0))), (q23, .inl (cA 1, 6, .inl (fun _ => 0))), (q31, .inl (cA 1, 6, .inl (fun _ => 0))), (q39, .inl (cA 1, 6, .inl (fun _ => 0)))] := hD
  refine W.widen (k := 5) (n := 30) (by omega) (by omega) ?_
  refine va_putF (D := D) (ci := 0) (v := .ref q39) (ty := .array .int) (C := RX0) (T := TX0) (N := 6) hx hb hts hn_X0_init_X0 tyX0 tyX0_ok nmX0 hown hK hP hD hS 0 rfl rfl 4 (by decide) (hts _ hw_X0_init_f24) (fun _ h9 => h9) rfl hin rfl (by decide +kernel) rfl rfl (Nat.le_of_ble_eq_true rfl) dX0_init_41 (fun H locs hP hD hS => ?_)
  have hP : va_P D vwCl [(a0, .inr (0, [.ref q7, .ref q15, .ref q23, .ref q31, .ref q39, .int 0])), (q7, .inl (cA 1, 6, .inl (fun _ => 0))), (q15, .inl (cA 1, 6, .inl (fun _ => 0))), (q23, .inl (cA 1, 6, .inl (fun _ => 0))), (q31, .inl (cA 1, 6, .inl (fun _ => 0))), (q39, .inl (cA 1, 6, .inl (fun _ => 0)))] H := hP
  have hD : va_D A [(a0, .inr (0, [.ref q7, .ref q15, .ref q23, .ref q31, .ref q39, .int 0])), (q7, .inl (cA 1, 6, .inl (fun _ => 0))), (q15, .inl (cA 1, 6, .inl (fun _ => 0))), (q23, .inl (cA 1, 6, .inl (fun _ => 0))), (q31, .inl (cA 1, 6, .inl (fun _ => 0))), (q39, .inl (cA 1, 6, .inl (fun _ => 0)))] := hD
  exact m_vretI (u := (fun j => [q7, q15, q23, q31, q39].getD j 0, fun k => [].getD k (fun _ => 0))) hx hb hr hlocks hP hD hS (Nat.le_of_ble_eq_true rfl) (Nat.le_of_ble_eq_true rfl) dX0_init_44
/-! ===== new OrphanWave$Sheets()V ===== -/
abbrev rm_X6_init : Room := { frames := 1, cells := 3, slots := 36, locals := 12 }
theorem hn_X6_init_X6 : ∀ w ∈ u_ws RX6 TX6 4, w ∈ wsX6_init := by decide +kernel
theorem hw_X6_init_m3 : Cond.methodLink RX6 3 objectInit ∈ wsX6_init := by decide +kernel
theorem hw_X6_init_ioi : Cond.instanceMethod objectInit ∈ wsX6_init := by decide +kernel
theorem hw_X6_init_koi : Cond.code objectInit ⟨#[0xb1]⟩ 1 none ∈ wsX6_init := by decide +kernel
theorem hw_X6_init_acI : Cond.arrayClass .int ∈ wsX6_init := by decide +kernel
theorem hw_X6_init_f9 : Cond.fieldLink RX6 9 "OrphanWave$Sheets" "marshes" "[I" ∈ wsX6_init := by decide +kernel
theorem hw_X6_init_f15 : Cond.fieldLink RX6 15 "OrphanWave$Sheets" "olds" "[I" ∈ wsX6_init := by decide +kernel
theorem hw_X6_init_f18 : Cond.fieldLink RX6 18 "OrphanWave$Sheets" "youngs" "[I" ∈ wsX6_init := by decide +kernel
set_option maxRecDepth 100000 in
set_option maxHeartbeats 4000000 in
theorem ci_X6_init (l : Launch) (D : va_G) (cA : Nat → ClassId) (a0 : Nat) : CTI l yX6_init wsX6_init rm_X6_init D cA [.ref a0] [(a0, .inr (6, [.null, .null, .null, .int 0]))] (fun u : FR => [(a0, .inr (6, [.ref (u.1 0), .ref (u.1 1), .ref (u.1 2), .int 0])), ((u.1 0), .inl (cA 1, 12, .inl (fun _ => 0))), ((u.1 1), .inl (cA 1, 12, .inl (fun _ => 0))), ((u.1 2), .inl (cA 1, 12, .inl (fun _ => 0)))]) 3 36 := by
  refine CTI.ofW (cc := cX6_init) (maxL := 1) (by decide +kernel) rfl rfl (Nat.le_of_ble_eq_true rfl) ?_
  intro p e s m below meth c A C0 hA hP hD ls hl
  have C0 : MXI p s m [.ref a0].toArray meth c cX6_init 1 wsX6_init RX6 D cA := C0
  have hl : lv_has ls 1 [(0, .ref a0)] := hl
  obtain ⟨hx, hb, hml, hown, hts, hr, hlocks, hin, hX⟩ := C0
  have hK := hX.1.1
  have hN := hX.1.2
  have hS : va_S A s.heap s.heap [] := va_S.rf
  refine lv_aload_n hx hb dX6_init_0 rfl (lv_at hl 0 rfl) ?_
  refine W.objInit hx hb hown (hts _ hw_X6_init_m3) (hts _ hw_X6_init_ioi) (hts _ hw_X6_init_koi) rfl (by rw [hml]; exact hl.1) rfl dX6_init_1 (Nat.le_of_ble_eq_true rfl) (Nat.le_of_ble_eq_true rfl) ?_
  refine W.eq (g2 := F0 m 4 ls []) rfl ?_
  refine lv_aload_n hx hb dX6_init_4 rfl (lv_at hl 0 rfl) ?_
  refine lv_bipush (v := (12 : Int32)) hx hb dX6_init_5 (by decide) ?_
  refine m_newa (atype := .int) (ty := .int) (a0 := (12, .inl (fun _ => 0))) 1 rfl rfl hx hb (hts _ hw_X6_init_acI) rfl hK hP hD hS hA (fun _ => rfl) (by decide) (by decide) (by decide) (Nat.le_of_ble_eq_true rfl) (Nat.le_of_ble_eq_true rfl) dX6_init_7 (fun q7 H hP hD hS => ?_)
  have hP : va_P D vwCl [(a0, .inr (6, [.null, .null, .null, .int 0])), (q7, .inl (cA 1, 12, .inl (fun _ => 0)))] H := hP
  have hD : va_D A [(a0, .inr (6, [.null, .null, .null, .int 0])), (q7, .inl (cA 1, 12, .inl (fun _ => 0)))] := hD
  refine W.widen (k := 1) (n := 12) (by omega) (by omega) ?_
  refine va_putF (D := D) (ci := 6) (v := .ref q7) (ty := .array .int) (C := RX6) (T := TX6) (N := 4) hx hb hts hn_X6_init_X6 tyX6 tyX6_ok nmX6 hown hK hP hD hS 0 rfl rfl 0 (by decide) (hts _ hw_X6_init_f9) (fun _ h9 => h9) rfl hin rfl (by decide +kernel) rfl rfl (Nat.le_of_ble_eq_true rfl) dX6_init_9 (fun H locs hP hD hS => ?_)
  have hP : va_P D vwCl [(a0, .inr (6, [.ref q7, .null, .null, .int 0])), (q7, .inl (cA 1, 12, .inl (fun _ => 0)))] H := hP
  have hD : va_D A [(a0, .inr (6, [.ref q7, .null, .null, .int 0])), (q7, .inl (cA 1, 12, .inl (fun _ => 0)))] := hD
  refine lv_aload_n hx hb dX6_init_12 rfl (lv_at hl 0 rfl) ?_
  refine lv_bipush (v := (12 : Int32)) hx hb dX6_init_13 (by decide) ?_
  refine m_newa (atype := .int) (ty := .int) (a0 := (12, .inl (fun _ => 0))) 1 rfl rfl hx hb (hts _ hw_X6_init_acI) rfl hK hP hD hS hA (fun _ => rfl) (by decide) (by decide) (by decide) (Nat.le_of_ble_eq_true rfl) (Nat.le_of_ble_eq_true rfl) dX6_init_15 (fun q15 H hP hD hS => ?_)
  have hP : va_P D vwCl [(a0, .inr (6, [.ref q7, .null, .null, .int 0])), (q7, .inl (cA 1, 12, .inl (fun _ => 0))), (q15, .inl (cA 1, 12, .inl (fun _ => 0)))] H := hP
  have hD : va_D A [(a0, .inr (6, [.ref q7, .null, .null, .int 0])), (q7, .inl (cA 1, 12, .inl (fun _ => 0))), (q15, .inl (cA 1, 12, .inl (fun _ => 0)))] := hD
  refine W.widen (k := 2) (n := 24) (by omega) (by omega) ?_
  refine va_putF (D := D) (ci := 6) (v := .ref q15) (ty := .array .int) (C := RX6) (T := TX6) (N := 4) hx hb hts hn_X6_init_X6 tyX6 tyX6_ok nmX6 hown hK hP hD hS 0 rfl rfl 1 (by decide) (hts _ hw_X6_init_f15) (fun _ h9 => h9) rfl hin rfl (by decide +kernel) rfl rfl (Nat.le_of_ble_eq_true rfl) dX6_init_17 (fun H locs hP hD hS => ?_)
  have hP : va_P D vwCl [(a0, .inr (6, [.ref q7, .ref q15, .null, .int 0])), (q7, .inl (cA 1, 12, .inl (fun _ => 0))), (q15, .inl (cA 1, 12, .inl (fun _ => 0)))] H := hP
  have hD : va_D A [(a0, .inr (6, [.ref q7, .ref q15, .null, .int 0])), (q7, .inl (cA 1, 12, .inl (fun _ => 0))), (q15, .inl (cA 1, 12, .inl (fun _ => 0)))] := hD
  refine lv_aload_n hx hb dX6_init_20 rfl (lv_at hl 0 rfl) ?_
  refine lv_bipush (v := (12 : Int32)) hx hb dX6_init_21 (by decide) ?_
  refine m_newa (atype := .int) (ty := .int) (a0 := (12, .inl (fun _ => 0))) 1 rfl rfl hx hb (hts _ hw_X6_init_acI) rfl hK hP hD hS hA (fun _ => rfl) (by decide) (by decide) (by decide) (Nat.le_of_ble_eq_true rfl) (Nat.le_of_ble_eq_true rfl) dX6_init_23 (fun q23 H hP hD hS => ?_)
  have hP : va_P D vwCl [(a0, .inr (6, [.ref q7, .ref q15, .null, .int 0])), (q7, .inl (cA 1, 12, .inl (fun _ => 0))), (q15, .inl (cA 1, 12, .inl (fun _ => 0))), (q23, .inl (cA 1, 12, .inl (fun _ => 0)))] H := hP
  have hD : va_D A [(a0, .inr (6, [.ref q7, .ref q15, .null, .int 0])), (q7, .inl (cA 1, 12, .inl (fun _ => 0))), (q15, .inl (cA 1, 12, .inl (fun _ => 0))), (q23, .inl (cA 1, 12, .inl (fun _ => 0)))] := hD
  refine W.widen (k := 3) (n := 36) (by omega) (by omega) ?_
  refine va_putF (D := D) (ci := 6) (v := .ref q23) (ty := .array .int) (C := RX6) (T := TX6) (N := 4) hx hb hts hn_X6_init_X6 tyX6 tyX6_ok nmX6 hown hK hP hD hS 0 rfl rfl 2 (by decide) (hts _ hw_X6_init_f18) (fun _ h9 => h9) rfl hin rfl (by decide +kernel) rfl rfl (Nat.le_of_ble_eq_true rfl) dX6_init_25 (fun H locs hP hD hS => ?_)
  have hP : va_P D vwCl [(a0, .inr (6, [.ref q7, .ref q15, .ref q23, .int 0])), (q7, .inl (cA 1, 12, .inl (fun _ => 0))), (q15, .inl (cA 1, 12, .inl (fun _ => 0))), (q23, .inl (cA 1, 12, .inl (fun _ => 0)))] H := hP
  have hD : va_D A [(a0, .inr (6, [.ref q7, .ref q15, .ref q23, .int 0])), (q7, .inl (cA 1, 12, .inl (fun _ => 0))), (q15, .inl (cA 1, 12, .inl (fun _ => 0))), (q23, .inl (cA 1, 12, .inl (fun _ => 0)))] := hD
  exact m_vretI (u := (fun j => [q7, q15, q23].getD j 0, fun k => [].getD k (fun _ => 0))) hx hb hr hlocks hP hD hS (Nat.le_of_ble_eq_true rfl) (Nat.le_of_ble_eq_true rfl) dX6_init_28
/-! ===== new OrphanWave$KnownSlips()V ===== -/
abbrev rm_X3_init : Room := { frames := 1, cells := 1, slots := 16, locals := 12 }
theorem hn_X3_init_X3 : ∀ w ∈ u_ws RX3 TX3 2, w ∈ wsX3_init := by decide +kernel
theorem hw_X3_init_m3 : Cond.methodLink RX3 3 objectInit ∈ wsX3_init := by decide +kernel
theorem hw_X3_init_ioi : Cond.instanceMethod objectInit ∈ wsX3_init := by decide +kernel
theorem hw_X3_init_koi : Cond.code objectInit ⟨#[0xb1]⟩ 1 none ∈ wsX3_init := by decide +kernel
theorem hw_X3_init_acI : Cond.arrayClass .int ∈ wsX3_init := by decide +kernel
theorem hw_X3_init_f9 : Cond.fieldLink RX3 9 "OrphanWave$KnownSlips" "years" "[I" ∈ wsX3_init := by decide +kernel
set_option maxRecDepth 100000 in
set_option maxHeartbeats 4000000 in
theorem ci_X3_init (l : Launch) (D : va_G) (cA : Nat → ClassId) (a0 : Nat) : CTI l yX3_init wsX3_init rm_X3_init D cA [.ref a0] [(a0, .inr (3, [.null, .int 0]))] (fun u : FR => [(a0, .inr (3, [.ref (u.1 0), .int 0])), ((u.1 0), .inl (cA 1, 16, .inl (fun _ => 0)))]) 1 16 := by
  refine CTI.ofW (cc := cX3_init) (maxL := 1) (by decide +kernel) rfl rfl (Nat.le_of_ble_eq_true rfl) ?_
  intro p e s m below meth c A C0 hA hP hD ls hl
  have C0 : MXI p s m [.ref a0].toArray meth c cX3_init 1 wsX3_init RX3 D cA := C0
  have hl : lv_has ls 1 [(0, .ref a0)] := hl
  obtain ⟨hx, hb, hml, hown, hts, hr, hlocks, hin, hX⟩ := C0
  have hK := hX.1.1
  have hN := hX.1.2
  have hS : va_S A s.heap s.heap [] := va_S.rf
  refine lv_aload_n hx hb dX3_init_0 rfl (lv_at hl 0 rfl) ?_
  refine W.objInit hx hb hown (hts _ hw_X3_init_m3) (hts _ hw_X3_init_ioi) (hts _ hw_X3_init_koi) rfl (by rw [hml]; exact hl.1) rfl dX3_init_1 (Nat.le_of_ble_eq_true rfl) (Nat.le_of_ble_eq_true rfl) ?_
  refine W.eq (g2 := F0 m 4 ls []) rfl ?_
  refine lv_aload_n hx hb dX3_init_4 rfl (lv_at hl 0 rfl) ?_
  refine lv_bipush (v := (16 : Int32)) hx hb dX3_init_5 (by decide) ?_
  refine m_newa (atype := .int) (ty := .int) (a0 := (16, .inl (fun _ => 0))) 1 rfl rfl hx hb (hts _ hw_X3_init_acI) rfl hK hP hD hS hA (fun _ => rfl) (by decide) (by decide) (by decide) (Nat.le_of_ble_eq_true rfl) (Nat.le_of_ble_eq_true rfl) dX3_init_7 (fun q7 H hP hD hS => ?_)
  have hP : va_P D vwCl [(a0, .inr (3, [.null, .int 0])), (q7, .inl (cA 1, 16, .inl (fun _ => 0)))] H := hP
  have hD : va_D A [(a0, .inr (3, [.null, .int 0])), (q7, .inl (cA 1, 16, .inl (fun _ => 0)))] := hD
  refine W.widen (k := 1) (n := 16) (by omega) (by omega) ?_
  refine va_putF (D := D) (ci := 3) (v := .ref q7) (ty := .array .int) (C := RX3) (T := TX3) (N := 2) hx hb hts hn_X3_init_X3 tyX3 tyX3_ok nmX3 hown hK hP hD hS 0 rfl rfl 0 (by decide) (hts _ hw_X3_init_f9) (fun _ h9 => h9) rfl hin rfl (by decide +kernel) rfl rfl (Nat.le_of_ble_eq_true rfl) dX3_init_9 (fun H locs hP hD hS => ?_)
  have hP : va_P D vwCl [(a0, .inr (3, [.ref q7, .int 0])), (q7, .inl (cA 1, 16, .inl (fun _ => 0)))] H := hP
  have hD : va_D A [(a0, .inr (3, [.ref q7, .int 0])), (q7, .inl (cA 1, 16, .inl (fun _ => 0)))] := hD
  exact m_vretI (u := (fun j => [q7].getD j 0, fun k => [].getD k (fun _ => 0))) hx hb hr hlocks hP hD hS (Nat.le_of_ble_eq_true rfl) (Nat.le_of_ble_eq_true rfl) dX3_init_12
/-! ===== new OrphanWave$Findings()V ===== -/
abbrev rm_X2_init : Room := { frames := 2, cells := 13, slots := 99, locals := 32 }
theorem hn_X2_init_X0 : ∀ w ∈ u_ws RX0 TX0 6, w ∈ wsX2_init := by decide +kernel
theorem hn_X2_init_X2 : ∀ w ∈ u_ws RX2 TX2 6, w ∈ wsX2_init := by decide +kernel
theorem hn_X2_init_X6 : ∀ w ∈ u_ws RX6 TX6 4, w ∈ wsX2_init := by decide +kernel
theorem hn_X2_init_X3 : ∀ w ∈ u_ws RX3 TX3 2, w ∈ wsX2_init := by decide +kernel
theorem hw_X2_init_m3 : Cond.methodLink RX2 3 objectInit ∈ wsX2_init := by decide +kernel
theorem hw_X2_init_ioi : Cond.instanceMethod objectInit ∈ wsX2_init := by decide +kernel
theorem hw_X2_init_koi : Cond.code objectInit ⟨#[0xb1]⟩ 1 none ∈ wsX2_init := by decide +kernel
theorem hw_X2_init_l9 : Cond.classLink RX2 9 RX0 ∈ wsX2_init := by decide +kernel
theorem hw_X2_init_nX0 : Cond.instantiable RX0 6 ∈ wsX2_init := by decide +kernel
theorem hw_X2_init_iX0 : Cond.initialized RX0 ∈ wsX2_init := by decide +kernel
theorem hw_X2_init_imX0_init : Cond.instanceMethod yX0_init ∈ wsX2_init := by decide +kernel
theorem hw_X2_init_f12 : Cond.fieldLink RX2 12 "OrphanWave$Findings" "books" "LOrphanWave$Books;" ∈ wsX2_init := by decide +kernel
theorem hw_X2_init_l18 : Cond.classLink RX2 18 RX6 ∈ wsX2_init := by decide +kernel
theorem hw_X2_init_nX6 : Cond.instantiable RX6 4 ∈ wsX2_init := by decide +kernel
theorem hw_X2_init_iX6 : Cond.initialized RX6 ∈ wsX2_init := by decide +kernel
theorem hw_X2_init_imX6_init : Cond.instanceMethod yX6_init ∈ wsX2_init := by decide +kernel
theorem hw_X2_init_f21 : Cond.fieldLink RX2 21 "OrphanWave$Findings" "sheets" "LOrphanWave$Sheets;" ∈ wsX2_init := by decide +kernel
theorem hw_X2_init_l25 : Cond.classLink RX2 25 RX3 ∈ wsX2_init := by decide +kernel
theorem hw_X2_init_nX3 : Cond.instantiable RX3 2 ∈ wsX2_init := by decide +kernel
theorem hw_X2_init_iX3 : Cond.initialized RX3 ∈ wsX2_init := by decide +kernel
theorem hw_X2_init_imX3_init : Cond.instanceMethod yX3_init ∈ wsX2_init := by decide +kernel
theorem hw_X2_init_f28 : Cond.fieldLink RX2 28 "OrphanWave$Findings" "known" "LOrphanWave$KnownSlips;" ∈ wsX2_init := by decide +kernel
theorem hw_X2_init_acJ : Cond.arrayClass .long ∈ wsX2_init := by decide +kernel
theorem hw_X2_init_f32 : Cond.fieldLink RX2 32 "OrphanWave$Findings" "weights" "[J" ∈ wsX2_init := by decide +kernel
def kc_X2_init_q39 : Nat → Int64 := (vp_updL (vp_updL (vp_updL (vp_updL (vp_updL (fun _ => 0) 0 (1 : Int64)) 1 (1 : Int64)) 2 (1 : Int64)) 3 (1 : Int64)) 4 (1 : Int64))
set_option maxRecDepth 100000 in
set_option maxHeartbeats 4000000 in
theorem ci_X2_init (l : Launch) (D : va_G) (cA : Nat → ClassId) (a0 : Nat) : CTI l yX2_init wsX2_init rm_X2_init D cA [.ref a0] [(a0, .inr (2, [.null, .null, .null, .null, .int 0, .int 0]))] (fun u : FR => [(a0, .inr (2, [.ref (u.1 0), .ref (u.1 6), .ref (u.1 10), .ref (u.1 12), .int 0, .int 0])), ((u.1 0), .inr (0, [.ref (u.1 1), .ref (u.1 2), .ref (u.1 3), .ref (u.1 4), .ref (u.1 5), .int 0])), ((u.1 1), .inl (cA 1, 6, .inl (fun _ => 0))), ((u.1 2), .inl (cA 1, 6, .inl (fun _ => 0))), ((u.1 3), .inl (cA 1, 6, .inl (fun _ => 0))), ((u.1 4), .inl (cA 1, 6, .inl (fun _ => 0))), ((u.1 5), .inl (cA 1, 6, .inl (fun _ => 0))), ((u.1 6), .inr (6, [.ref (u.1 7), .ref (u.1 8), .ref (u.1 9), .int 0])), ((u.1 7), .inl (cA 1, 12, .inl (fun _ => 0))), ((u.1 8), .inl (cA 1, 12, .inl (fun _ => 0))), ((u.1 9), .inl (cA 1, 12, .inl (fun _ => 0))), ((u.1 10), .inr (3, [.ref (u.1 11), .int 0])), ((u.1 11), .inl (cA 1, 16, .inl (fun _ => 0))), ((u.1 12), .inl (cA 2, 5, .inr (.inl kc_X2_init_q39)))]) 13 99 := by
  refine CTI.ofW (cc := cX2_init) (maxL := 1) (by decide +kernel) rfl rfl (Nat.le_of_ble_eq_true rfl) ?_
  intro p e s m below meth c A C0 hA hP hD ls hl
  have C0 : MXI p s m [.ref a0].toArray meth c cX2_init 1 wsX2_init RX2 D cA := C0
  have hl : lv_has ls 1 [(0, .ref a0)] := hl
  obtain ⟨hx, hb, hml, hown, hts, hr, hlocks, hin, hX⟩ := C0
  have hK := hX.1.1
  have hN := hX.1.2
  have hS : va_S A s.heap s.heap [] := va_S.rf
  refine lv_aload_n hx hb dX2_init_0 rfl (lv_at hl 0 rfl) ?_
  refine W.objInit hx hb hown (hts _ hw_X2_init_m3) (hts _ hw_X2_init_ioi) (hts _ hw_X2_init_koi) rfl (by rw [hml]; exact hl.1) rfl dX2_init_1 (Nat.le_of_ble_eq_true rfl) (Nat.le_of_ble_eq_true rfl) ?_
  refine W.eq (g2 := F0 m 4 ls []) rfl ?_
  refine lv_aload_n hx hb dX2_init_4 rfl (lv_at hl 0 rfl) ?_
  refine va_new (ci := 0) (fs := [.null, .null, .null, .null, .null, .int 0]) (C := RX0) (T := TX0) (N := 6) hx hb hts hn_X2_init_X0 tyX0 tyX0_ok hown (hts _ hw_X2_init_l9) (hts _ hw_X2_init_nX0) (hts _ hw_X2_init_iX0) hK hP hD hS hA rfl (fun j hj => by rcases (show j = 0 ∨ j = 1 ∨ j = 2 ∨ j = 3 ∨ j = 4 ∨ j = 5 by omega) with rfl | rfl | rfl | rfl | rfl | rfl <;> rfl) (Nat.le_of_ble_eq_true rfl) (Nat.le_of_ble_eq_true rfl) dX2_init_5 (fun q5 H hP hD hS => ?_)
  have hP : va_P D vwCl [(a0, .inr (2, [.null, .null, .null, .null, .int 0, .int 0])), (q5, .inr (0, [.null, .null, .null, .null, .null, .int 0]))] H := hP
  have hD : va_D A [(a0, .inr (2, [.null, .null, .null, .null, .int 0, .int 0])), (q5, .inr (0, [.null, .null, .null, .null, .null, .int 0]))] := hD
  refine W.widen (k := 1) (n := 6) (by omega) (by omega) ?_
  refine lv_dup hx hb dX2_init_8 rfl ?_
  refine m_callIN (As := []) (rest := [.ref q5, .ref a0]) (WR := [(a0, .inr (2, [.null, .null, .null, .null, .int 0, .int 0]))]) ⟨hx, hb, hml, hown, hts⟩ hX (ci_X0_init l D cA q5) ⟨va_cnB 0 hts ggX2_init_X0_init rfl rfl rfl (hN _ nw_X2_11) (hts _ hw_X2_init_iX0) (by decide +kernel) ⟨Nat.le_of_ble_eq_true rfl, Nat.le_of_ble_eq_true rfl⟩, rfl, hts _ hw_X2_init_imX0_init⟩ hP hD hS hA [1] [0] (by decide) rfl rfl (by decide) (by decide) rfl hl.1 rfl (Nat.le_of_ble_eq_true rfl) ⟨Nat.le_of_ble_eq_true rfl, Nat.le_of_ble_eq_true rfl⟩ dX2_init_9 (fun u_1 H locs hP hD hS => ?_)
  have hP : va_P D vwCl [(a0, .inr (2, [.null, .null, .null, .null, .int 0, .int 0])), (q5, .inr (0, [.ref (u_1.1 0), .ref (u_1.1 1), .ref (u_1.1 2), .ref (u_1.1 3), .ref (u_1.1 4), .int 0])), ((u_1.1 0), .inl (cA 1, 6, .inl (fun _ => 0))), ((u_1.1 1), .inl (cA 1, 6, .inl (fun _ => 0))), ((u_1.1 2), .inl (cA 1, 6, .inl (fun _ => 0))), ((u_1.1 3), .inl (cA 1, 6, .inl (fun _ => 0))), ((u_1.1 4), .inl (cA 1, 6, .inl (fun _ => 0)))] H := hP
  have hD : va_D A [(a0, .inr (2, [.null, .null, .null, .null, .int 0, .int 0])), (q5, .inr (0, [.ref (u_1.1 0), .ref (u_1.1 1), .ref (u_1.1 2), .ref (u_1.1 3), .ref (u_1.1 4), .int 0])), ((u_1.1 0), .inl (cA 1, 6, .inl (fun _ => 0))), ((u_1.1 1), .inl (cA 1, 6, .inl (fun _ => 0))), ((u_1.1 2), .inl (cA 1, 6, .inl (fun _ => 0))), ((u_1.1 3), .inl (cA 1, 6, .inl (fun _ => 0))), ((u_1.1 4), .inl (cA 1, 6, .inl (fun _ => 0)))] := hD
  refine W.widen (k := 6) (n := 36) (by omega) (by omega) ?_
  refine va_putF (D := D) (ci := 2) (v := .ref q5) (ty := .object "OrphanWave$Books") (C := RX2) (T := TX2) (N := 6) hx hb hts hn_X2_init_X2 tyX2 tyX2_ok nmX2 hown hK hP hD hS 0 rfl rfl 0 (by decide) (hts _ hw_X2_init_f12) (fun _ h9 => h9) rfl hin rfl (by decide +kernel) rfl rfl (Nat.le_of_ble_eq_true rfl) dX2_init_12 (fun H locs hP hD hS => ?_)
  have hP : va_P D vwCl [(a0, .inr (2, [.ref q5, .null, .null, .null, .int 0, .int 0])), (q5, .inr (0, [.ref (u_1.1 0), .ref (u_1.1 1), .ref (u_1.1 2), .ref (u_1.1 3), .ref (u_1.1 4), .int 0])), ((u_1.1 0), .inl (cA 1, 6, .inl (fun _ => 0))), ((u_1.1 1), .inl (cA 1, 6, .inl (fun _ => 0))), ((u_1.1 2), .inl (cA 1, 6, .inl (fun _ => 0))), ((u_1.1 3), .inl (cA 1, 6, .inl (fun _ => 0))), ((u_1.1 4), .inl (cA 1, 6, .inl (fun _ => 0)))] H := hP
  have hD : va_D A [(a0, .inr (2, [.ref q5, .null, .null, .null, .int 0, .int 0])), (q5, .inr (0, [.ref (u_1.1 0), .ref (u_1.1 1), .ref (u_1.1 2), .ref (u_1.1 3), .ref (u_1.1 4), .int 0])), ((u_1.1 0), .inl (cA 1, 6, .inl (fun _ => 0))), ((u_1.1 1), .inl (cA 1, 6, .inl (fun _ => 0))), ((u_1.1 2), .inl (cA 1, 6, .inl (fun _ => 0))), ((u_1.1 3), .inl (cA 1, 6, .inl (fun _ => 0))), ((u_1.1 4), .inl (cA 1, 6, .inl (fun _ => 0)))] := hD
  refine lv_aload_n hx hb dX2_init_15 rfl (lv_at hl 0 rfl) ?_
  refine va_new (ci := 6) (fs := [.null, .null, .null, .int 0]) (C := RX6) (T := TX6) (N := 4) hx hb hts hn_X2_init_X6 tyX6 tyX6_ok hown (hts _ hw_X2_init_l18) (hts _ hw_X2_init_nX6) (hts _ hw_X2_init_iX6) hK hP hD hS hA rfl (fun j hj => by rcases (show j = 0 ∨ j = 1 ∨ j = 2 ∨ j = 3 by omega) with rfl | rfl | rfl | rfl <;> rfl) (Nat.le_of_ble_eq_true rfl) (Nat.le_of_ble_eq_true rfl) dX2_init_16 (fun q16 H hP hD hS => ?_)
  have hP : va_P D vwCl [(a0, .inr (2, [.ref q5, .null, .null, .null, .int 0, .int 0])), (q5, .inr (0, [.ref (u_1.1 0), .ref (u_1.1 1), .ref (u_1.1 2), .ref (u_1.1 3), .ref (u_1.1 4), .int 0])), ((u_1.1 0), .inl (cA 1, 6, .inl (fun _ => 0))), ((u_1.1 1), .inl (cA 1, 6, .inl (fun _ => 0))), ((u_1.1 2), .inl (cA 1, 6, .inl (fun _ => 0))), ((u_1.1 3), .inl (cA 1, 6, .inl (fun _ => 0))), ((u_1.1 4), .inl (cA 1, 6, .inl (fun _ => 0))), (q16, .inr (6, [.null, .null, .null, .int 0]))] H := hP
  have hD : va_D A [(a0, .inr (2, [.ref q5, .null, .null, .null, .int 0, .int 0])), (q5, .inr (0, [.ref (u_1.1 0), .ref (u_1.1 1), .ref (u_1.1 2), .ref (u_1.1 3), .ref (u_1.1 4), .int 0])), ((u_1.1 0), .inl (cA 1, 6, .inl (fun _ => 0))), ((u_1.1 1), .inl (cA 1, 6, .inl (fun _ => 0))), ((u_1.1 2), .inl (cA 1, 6, .inl (fun _ => 0))), ((u_1.1 3), .inl (cA 1, 6, .inl (fun _ => 0))), ((u_1.1 4), .inl (cA 1, 6, .inl (fun _ => 0))), (q16, .inr (6, [.null, .null, .null, .int 0]))] := hD
  refine W.widen (k := 7) (n := 40) (by omega) (by omega) ?_
  refine lv_dup hx hb dX2_init_19 rfl ?_
  refine m_callIN (As := []) (rest := [.ref q16, .ref a0]) (WR := [(a0, .inr (2, [.ref q5, .null, .null, .null, .int 0, .int 0])), (q5, .inr (0, [.ref (u_1.1 0), .ref (u_1.1 1), .ref (u_1.1 2), .ref (u_1.1 3), .ref (u_1.1 4), .int 0])), ((u_1.1 0), .inl (cA 1, 6, .inl (fun _ => 0))), ((u_1.1 1), .inl (cA 1, 6, .inl (fun _ => 0))), ((u_1.1 2), .inl (cA 1, 6, .inl (fun _ => 0))), ((u_1.1 3), .inl (cA 1, 6, .inl (fun _ => 0))), ((u_1.1 4), .inl (cA 1, 6, .inl (fun _ => 0)))]) ⟨hx, hb, hml, hown, hts⟩ hX (ci_X6_init l D cA q16) ⟨va_cnB 0 hts ggX2_init_X6_init rfl rfl rfl (hN _ nw_X2_20) (hts _ hw_X2_init_iX6) (by decide +kernel) ⟨Nat.le_of_ble_eq_true rfl, Nat.le_of_ble_eq_true rfl⟩, rfl, hts _ hw_X2_init_imX6_init⟩ hP hD hS hA [7] [0, 1, 2, 3, 4, 5, 6] (by decide) rfl rfl (by decide) (by decide) rfl hl.1 rfl (Nat.le_of_ble_eq_true rfl) ⟨Nat.le_of_ble_eq_true rfl, Nat.le_of_ble_eq_true rfl⟩ dX2_init_20 (fun u_2 H locs hP hD hS => ?_)
  have hP : va_P D vwCl [(a0, .inr (2, [.ref q5, .null, .null, .null, .int 0, .int 0])), (q5, .inr (0, [.ref (u_1.1 0), .ref (u_1.1 1), .ref (u_1.1 2), .ref (u_1.1 3), .ref (u_1.1 4), .int 0])), ((u_1.1 0), .inl (cA 1, 6, .inl (fun _ => 0))), ((u_1.1 1), .inl (cA 1, 6, .inl (fun _ => 0))), ((u_1.1 2), .inl (cA 1, 6, .inl (fun _ => 0))), ((u_1.1 3), .inl (cA 1, 6, .inl (fun _ => 0))), ((u_1.1 4), .inl (cA 1, 6, .inl (fun _ => 0))), (q16, .inr (6, [.ref (u_2.1 0), .ref (u_2.1 1), .ref (u_2.1 2), .int 0])), ((u_2.1 0), .inl (cA 1, 12, .inl (fun _ => 0))), ((u_2.1 1), .inl (cA 1, 12, .inl (fun _ => 0))), ((u_2.1 2), .inl (cA 1, 12, .inl (fun _ => 0)))] H := hP
  have hD : va_D A [(a0, .inr (2, [.ref q5, .null, .null, .null, .int 0, .int 0])), (q5, .inr (0, [.ref (u_1.1 0), .ref (u_1.1 1), .ref (u_1.1 2), .ref (u_1.1 3), .ref (u_1.1 4), .int 0])), ((u_1.1 0), .inl (cA 1, 6, .inl (fun _ => 0))), ((u_1.1 1), .inl (cA 1, 6, .inl (fun _ => 0))), ((u_1.1 2), .inl (cA 1, 6, .inl (fun _ => 0))), ((u_1.1 3), .inl (cA 1, 6, .inl (fun _ => 0))), ((u_1.1 4), .inl (cA 1, 6, .inl (fun _ => 0))), (q16, .inr (6, [.ref (u_2.1 0), .ref (u_2.1 1), .ref (u_2.1 2), .int 0])), ((u_2.1 0), .inl (cA 1, 12, .inl (fun _ => 0))), ((u_2.1 1), .inl (cA 1, 12, .inl (fun _ => 0))), ((u_2.1 2), .inl (cA 1, 12, .inl (fun _ => 0)))] := hD
  refine W.widen (k := 10) (n := 76) (by omega) (by omega) ?_
  refine va_putF (D := D) (ci := 2) (v := .ref q16) (ty := .object "OrphanWave$Sheets") (C := RX2) (T := TX2) (N := 6) hx hb hts hn_X2_init_X2 tyX2 tyX2_ok nmX2 hown hK hP hD hS 0 rfl rfl 1 (by decide) (hts _ hw_X2_init_f21) (fun _ h9 => h9) rfl hin rfl (by decide +kernel) rfl rfl (Nat.le_of_ble_eq_true rfl) dX2_init_23 (fun H locs hP hD hS => ?_)
  have hP : va_P D vwCl [(a0, .inr (2, [.ref q5, .ref q16, .null, .null, .int 0, .int 0])), (q5, .inr (0, [.ref (u_1.1 0), .ref (u_1.1 1), .ref (u_1.1 2), .ref (u_1.1 3), .ref (u_1.1 4), .int 0])), ((u_1.1 0), .inl (cA 1, 6, .inl (fun _ => 0))), ((u_1.1 1), .inl (cA 1, 6, .inl (fun _ => 0))), ((u_1.1 2), .inl (cA 1, 6, .inl (fun _ => 0))), ((u_1.1 3), .inl (cA 1, 6, .inl (fun _ => 0))), ((u_1.1 4), .inl (cA 1, 6, .inl (fun _ => 0))), (q16, .inr (6, [.ref (u_2.1 0), .ref (u_2.1 1), .ref (u_2.1 2), .int 0])), ((u_2.1 0), .inl (cA 1, 12, .inl (fun _ => 0))), ((u_2.1 1), .inl (cA 1, 12, .inl (fun _ => 0))), ((u_2.1 2), .inl (cA 1, 12, .inl (fun _ => 0)))] H := hP
  have hD : va_D A [(a0, .inr (2, [.ref q5, .ref q16, .null, .null, .int 0, .int 0])), (q5, .inr (0, [.ref (u_1.1 0), .ref (u_1.1 1), .ref (u_1.1 2), .ref (u_1.1 3), .ref (u_1.1 4), .int 0])), ((u_1.1 0), .inl (cA 1, 6, .inl (fun _ => 0))), ((u_1.1 1), .inl (cA 1, 6, .inl (fun _ => 0))), ((u_1.1 2), .inl (cA 1, 6, .inl (fun _ => 0))), ((u_1.1 3), .inl (cA 1, 6, .inl (fun _ => 0))), ((u_1.1 4), .inl (cA 1, 6, .inl (fun _ => 0))), (q16, .inr (6, [.ref (u_2.1 0), .ref (u_2.1 1), .ref (u_2.1 2), .int 0])), ((u_2.1 0), .inl (cA 1, 12, .inl (fun _ => 0))), ((u_2.1 1), .inl (cA 1, 12, .inl (fun _ => 0))), ((u_2.1 2), .inl (cA 1, 12, .inl (fun _ => 0)))] := hD
  refine lv_aload_n hx hb dX2_init_26 rfl (lv_at hl 0 rfl) ?_
  refine va_new (ci := 3) (fs := [.null, .int 0]) (C := RX3) (T := TX3) (N := 2) hx hb hts hn_X2_init_X3 tyX3 tyX3_ok hown (hts _ hw_X2_init_l25) (hts _ hw_X2_init_nX3) (hts _ hw_X2_init_iX3) hK hP hD hS hA rfl (fun j hj => by rcases (show j = 0 ∨ j = 1 by omega) with rfl | rfl <;> rfl) (Nat.le_of_ble_eq_true rfl) (Nat.le_of_ble_eq_true rfl) dX2_init_27 (fun q27 H hP hD hS => ?_)
  have hP : va_P D vwCl [(a0, .inr (2, [.ref q5, .ref q16, .null, .null, .int 0, .int 0])), (q5, .inr (0, [.ref (u_1.1 0), .ref (u_1.1 1), .ref (u_1.1 2), .ref (u_1.1 3), .ref (u_1.1 4), .int 0])), ((u_1.1 0), .inl (cA 1, 6, .inl (fun _ => 0))), ((u_1.1 1), .inl (cA 1, 6, .inl (fun _ => 0))), ((u_1.1 2), .inl (cA 1, 6, .inl (fun _ => 0))), ((u_1.1 3), .inl (cA 1, 6, .inl (fun _ => 0))), ((u_1.1 4), .inl (cA 1, 6, .inl (fun _ => 0))), (q16, .inr (6, [.ref (u_2.1 0), .ref (u_2.1 1), .ref (u_2.1 2), .int 0])), ((u_2.1 0), .inl (cA 1, 12, .inl (fun _ => 0))), ((u_2.1 1), .inl (cA 1, 12, .inl (fun _ => 0))), ((u_2.1 2), .inl (cA 1, 12, .inl (fun _ => 0))), (q27, .inr (3, [.null, .int 0]))] H := hP
  have hD : va_D A [(a0, .inr (2, [.ref q5, .ref q16, .null, .null, .int 0, .int 0])), (q5, .inr (0, [.ref (u_1.1 0), .ref (u_1.1 1), .ref (u_1.1 2), .ref (u_1.1 3), .ref (u_1.1 4), .int 0])), ((u_1.1 0), .inl (cA 1, 6, .inl (fun _ => 0))), ((u_1.1 1), .inl (cA 1, 6, .inl (fun _ => 0))), ((u_1.1 2), .inl (cA 1, 6, .inl (fun _ => 0))), ((u_1.1 3), .inl (cA 1, 6, .inl (fun _ => 0))), ((u_1.1 4), .inl (cA 1, 6, .inl (fun _ => 0))), (q16, .inr (6, [.ref (u_2.1 0), .ref (u_2.1 1), .ref (u_2.1 2), .int 0])), ((u_2.1 0), .inl (cA 1, 12, .inl (fun _ => 0))), ((u_2.1 1), .inl (cA 1, 12, .inl (fun _ => 0))), ((u_2.1 2), .inl (cA 1, 12, .inl (fun _ => 0))), (q27, .inr (3, [.null, .int 0]))] := hD
  refine W.widen (k := 11) (n := 78) (by omega) (by omega) ?_
  refine lv_dup hx hb dX2_init_30 rfl ?_
  refine m_callIN (As := []) (rest := [.ref q27, .ref a0]) (WR := [(a0, .inr (2, [.ref q5, .ref q16, .null, .null, .int 0, .int 0])), (q5, .inr (0, [.ref (u_1.1 0), .ref (u_1.1 1), .ref (u_1.1 2), .ref (u_1.1 3), .ref (u_1.1 4), .int 0])), ((u_1.1 0), .inl (cA 1, 6, .inl (fun _ => 0))), ((u_1.1 1), .inl (cA 1, 6, .inl (fun _ => 0))), ((u_1.1 2), .inl (cA 1, 6, .inl (fun _ => 0))), ((u_1.1 3), .inl (cA 1, 6, .inl (fun _ => 0))), ((u_1.1 4), .inl (cA 1, 6, .inl (fun _ => 0))), (q16, .inr (6, [.ref (u_2.1 0), .ref (u_2.1 1), .ref (u_2.1 2), .int 0])), ((u_2.1 0), .inl (cA 1, 12, .inl (fun _ => 0))), ((u_2.1 1), .inl (cA 1, 12, .inl (fun _ => 0))), ((u_2.1 2), .inl (cA 1, 12, .inl (fun _ => 0)))]) ⟨hx, hb, hml, hown, hts⟩ hX (ci_X3_init l D cA q27) ⟨va_cnB 0 hts ggX2_init_X3_init rfl rfl rfl (hN _ nw_X2_27) (hts _ hw_X2_init_iX3) (by decide +kernel) ⟨Nat.le_of_ble_eq_true rfl, Nat.le_of_ble_eq_true rfl⟩, rfl, hts _ hw_X2_init_imX3_init⟩ hP hD hS hA [11] [0, 1, 2, 3, 4, 5, 6, 7, 8, 9, 10] (by decide) rfl rfl (by decide) (by decide) rfl hl.1 rfl (Nat.le_of_ble_eq_true rfl) ⟨Nat.le_of_ble_eq_true rfl, Nat.le_of_ble_eq_true rfl⟩ dX2_init_31 (fun u_3 H locs hP hD hS => ?_)
  have hP : va_P D vwCl [(a0, .inr (2, [.ref q5, .ref q16, .null, .null, .int 0, .int 0])), (q5, .inr (0, [.ref (u_1.1 0), .ref (u_1.1 1), .ref (u_1.1 2), .ref (u_1.1 3), .ref (u_1.1 4), .int 0])), ((u_1.1 0), .inl (cA 1, 6, .inl (fun _ => 0))), ((u_1.1 1), .inl (cA 1, 6, .inl (fun _ => 0))), ((u_1.1 2), .inl (cA 1, 6, .inl (fun _ => 0))), ((u_1.1 3), .inl (cA 1, 6, .inl (fun _ => 0))), ((u_1.1 4), .inl (cA 1, 6, .inl (fun _ => 0))), (q16, .inr (6, [.ref (u_2.1 0), .ref (u_2.1 1), .ref (u_2.1 2), .int 0])), ((u_2.1 0), .inl (cA 1, 12, .inl (fun _ => 0))), ((u_2.1 1), .inl (cA 1, 12, .inl (fun _ => 0))), ((u_2.1 2), .inl (cA 1, 12, .inl (fun _ => 0))), (q27, .inr (3, [.ref (u_3.1 0), .int 0])), ((u_3.1 0), .inl (cA 1, 16, .inl (fun _ => 0)))] H := hP
  have hD : va_D A [(a0, .inr (2, [.ref q5, .ref q16, .null, .null, .int 0, .int 0])), (q5, .inr (0, [.ref (u_1.1 0), .ref (u_1.1 1), .ref (u_1.1 2), .ref (u_1.1 3), .ref (u_1.1 4), .int 0])), ((u_1.1 0), .inl (cA 1, 6, .inl (fun _ => 0))), ((u_1.1 1), .inl (cA 1, 6, .inl (fun _ => 0))), ((u_1.1 2), .inl (cA 1, 6, .inl (fun _ => 0))), ((u_1.1 3), .inl (cA 1, 6, .inl (fun _ => 0))), ((u_1.1 4), .inl (cA 1, 6, .inl (fun _ => 0))), (q16, .inr (6, [.ref (u_2.1 0), .ref (u_2.1 1), .ref (u_2.1 2), .int 0])), ((u_2.1 0), .inl (cA 1, 12, .inl (fun _ => 0))), ((u_2.1 1), .inl (cA 1, 12, .inl (fun _ => 0))), ((u_2.1 2), .inl (cA 1, 12, .inl (fun _ => 0))), (q27, .inr (3, [.ref (u_3.1 0), .int 0])), ((u_3.1 0), .inl (cA 1, 16, .inl (fun _ => 0)))] := hD
  refine W.widen (k := 12) (n := 94) (by omega) (by omega) ?_
  refine va_putF (D := D) (ci := 2) (v := .ref q27) (ty := .object "OrphanWave$KnownSlips") (C := RX2) (T := TX2) (N := 6) hx hb hts hn_X2_init_X2 tyX2 tyX2_ok nmX2 hown hK hP hD hS 0 rfl rfl 2 (by decide) (hts _ hw_X2_init_f28) (fun _ h9 => h9) rfl hin rfl (by decide +kernel) rfl rfl (Nat.le_of_ble_eq_true rfl) dX2_init_34 (fun H locs hP hD hS => ?_)
  have hP : va_P D vwCl [(a0, .inr (2, [.ref q5, .ref q16, .ref q27, .null, .int 0, .int 0])), (q5, .inr (0, [.ref (u_1.1 0), .ref (u_1.1 1), .ref (u_1.1 2), .ref (u_1.1 3), .ref (u_1.1 4), .int 0])), ((u_1.1 0), .inl (cA 1, 6, .inl (fun _ => 0))), ((u_1.1 1), .inl (cA 1, 6, .inl (fun _ => 0))), ((u_1.1 2), .inl (cA 1, 6, .inl (fun _ => 0))), ((u_1.1 3), .inl (cA 1, 6, .inl (fun _ => 0))), ((u_1.1 4), .inl (cA 1, 6, .inl (fun _ => 0))), (q16, .inr (6, [.ref (u_2.1 0), .ref (u_2.1 1), .ref (u_2.1 2), .int 0])), ((u_2.1 0), .inl (cA 1, 12, .inl (fun _ => 0))), ((u_2.1 1), .inl (cA 1, 12, .inl (fun _ => 0))), ((u_2.1 2), .inl (cA 1, 12, .inl (fun _ => 0))), (q27, .inr (3, [.ref (u_3.1 0), .int 0])), ((u_3.1 0), .inl (cA 1, 16, .inl (fun _ => 0)))] H := hP
  have hD : va_D A [(a0, .inr (2, [.ref q5, .ref q16, .ref q27, .null, .int 0, .int 0])), (q5, .inr (0, [.ref (u_1.1 0), .ref (u_1.1 1), .ref (u_1.1 2), .ref (u_1.1 3), .ref (u_1.1 4), .int 0])), ((u_1.1 0), .inl (cA 1, 6, .inl (fun _ => 0))), ((u_1.1 1), .inl (cA 1, 6, .inl (fun _ => 0))), ((u_1.1 2), .inl (cA 1, 6, .inl (fun _ => 0))), ((u_1.1 3), .inl (cA 1, 6, .inl (fun _ => 0))), ((u_1.1 4), .inl (cA 1, 6, .inl (fun _ => 0))), (q16, .inr (6, [.ref (u_2.1 0), .ref (u_2.1 1), .ref (u_2.1 2), .int 0])), ((u_2.1 0), .inl (cA 1, 12, .inl (fun _ => 0))), ((u_2.1 1), .inl (cA 1, 12, .inl (fun _ => 0))), ((u_2.1 2), .inl (cA 1, 12, .inl (fun _ => 0))), (q27, .inr (3, [.ref (u_3.1 0), .int 0])), ((u_3.1 0), .inl (cA 1, 16, .inl (fun _ => 0)))] := hD
  refine lv_aload_n hx hb dX2_init_37 rfl (lv_at hl 0 rfl) ?_
  refine lv_iconst (v := (5 : Int32)) hx hb dX2_init_38 (by decide) ?_
  refine m_newa (atype := .long) (ty := .long) (a0 := (5, .inr (.inl (fun _ => 0)))) 2 rfl rfl hx hb (hts _ hw_X2_init_acJ) rfl hK hP hD hS hA (fun _ => rfl) (by decide) (by decide) (by decide) (Nat.le_of_ble_eq_true rfl) (Nat.le_of_ble_eq_true rfl) dX2_init_39 (fun q39 H hP hD hS => ?_)
  have hP : va_P D vwCl [(a0, .inr (2, [.ref q5, .ref q16, .ref q27, .null, .int 0, .int 0])), (q5, .inr (0, [.ref (u_1.1 0), .ref (u_1.1 1), .ref (u_1.1 2), .ref (u_1.1 3), .ref (u_1.1 4), .int 0])), ((u_1.1 0), .inl (cA 1, 6, .inl (fun _ => 0))), ((u_1.1 1), .inl (cA 1, 6, .inl (fun _ => 0))), ((u_1.1 2), .inl (cA 1, 6, .inl (fun _ => 0))), ((u_1.1 3), .inl (cA 1, 6, .inl (fun _ => 0))), ((u_1.1 4), .inl (cA 1, 6, .inl (fun _ => 0))), (q16, .inr (6, [.ref (u_2.1 0), .ref (u_2.1 1), .ref (u_2.1 2), .int 0])), ((u_2.1 0), .inl (cA 1, 12, .inl (fun _ => 0))), ((u_2.1 1), .inl (cA 1, 12, .inl (fun _ => 0))), ((u_2.1 2), .inl (cA 1, 12, .inl (fun _ => 0))), (q27, .inr (3, [.ref (u_3.1 0), .int 0])), ((u_3.1 0), .inl (cA 1, 16, .inl (fun _ => 0))), (q39, .inl (cA 2, 5, .inr (.inl (fun _ => 0))))] H := hP
  have hD : va_D A [(a0, .inr (2, [.ref q5, .ref q16, .ref q27, .null, .int 0, .int 0])), (q5, .inr (0, [.ref (u_1.1 0), .ref (u_1.1 1), .ref (u_1.1 2), .ref (u_1.1 3), .ref (u_1.1 4), .int 0])), ((u_1.1 0), .inl (cA 1, 6, .inl (fun _ => 0))), ((u_1.1 1), .inl (cA 1, 6, .inl (fun _ => 0))), ((u_1.1 2), .inl (cA 1, 6, .inl (fun _ => 0))), ((u_1.1 3), .inl (cA 1, 6, .inl (fun _ => 0))), ((u_1.1 4), .inl (cA 1, 6, .inl (fun _ => 0))), (q16, .inr (6, [.ref (u_2.1 0), .ref (u_2.1 1), .ref (u_2.1 2), .int 0])), ((u_2.1 0), .inl (cA 1, 12, .inl (fun _ => 0))), ((u_2.1 1), .inl (cA 1, 12, .inl (fun _ => 0))), ((u_2.1 2), .inl (cA 1, 12, .inl (fun _ => 0))), (q27, .inr (3, [.ref (u_3.1 0), .int 0])), ((u_3.1 0), .inl (cA 1, 16, .inl (fun _ => 0))), (q39, .inl (cA 2, 5, .inr (.inl (fun _ => 0))))] := hD
  refine W.widen (k := 13) (n := 99) (by omega) (by omega) ?_
  refine lv_dup hx hb dX2_init_41 rfl ?_
  refine lv_iconst (v := (0 : Int32)) hx hb dX2_init_42 (by decide) ?_
  refine lv_lconst (v := (1 : Int64)) hx hb dX2_init_43 (by decide) ?_
  refine va_last hx hb hK hP hD hS 13 2 rfl rfl (show pin (0 : Int32) 5 by decide +kernel) dX2_init_44 (fun H locs hP hD hS => ?_)
  obtain ⟨f_4, ef_4⟩ : ∃ z : Nat → Int64, z = vp_updL (fun _ => 0) (0 : Int32).toNatClampNeg (1 : Int64) := ⟨_, rfl⟩
  have hP : va_P D vwCl [(a0, .inr (2, [.ref q5, .ref q16, .ref q27, .null, .int 0, .int 0])), (q5, .inr (0, [.ref (u_1.1 0), .ref (u_1.1 1), .ref (u_1.1 2), .ref (u_1.1 3), .ref (u_1.1 4), .int 0])), ((u_1.1 0), .inl (cA 1, 6, .inl (fun _ => 0))), ((u_1.1 1), .inl (cA 1, 6, .inl (fun _ => 0))), ((u_1.1 2), .inl (cA 1, 6, .inl (fun _ => 0))), ((u_1.1 3), .inl (cA 1, 6, .inl (fun _ => 0))), ((u_1.1 4), .inl (cA 1, 6, .inl (fun _ => 0))), (q16, .inr (6, [.ref (u_2.1 0), .ref (u_2.1 1), .ref (u_2.1 2), .int 0])), ((u_2.1 0), .inl (cA 1, 12, .inl (fun _ => 0))), ((u_2.1 1), .inl (cA 1, 12, .inl (fun _ => 0))), ((u_2.1 2), .inl (cA 1, 12, .inl (fun _ => 0))), (q27, .inr (3, [.ref (u_3.1 0), .int 0])), ((u_3.1 0), .inl (cA 1, 16, .inl (fun _ => 0))), (q39, .inl (cA 2, 5, .inr (.inl f_4)))] H := by rw [ef_4]; exact hP
  have hD : va_D A [(a0, .inr (2, [.ref q5, .ref q16, .ref q27, .null, .int 0, .int 0])), (q5, .inr (0, [.ref (u_1.1 0), .ref (u_1.1 1), .ref (u_1.1 2), .ref (u_1.1 3), .ref (u_1.1 4), .int 0])), ((u_1.1 0), .inl (cA 1, 6, .inl (fun _ => 0))), ((u_1.1 1), .inl (cA 1, 6, .inl (fun _ => 0))), ((u_1.1 2), .inl (cA 1, 6, .inl (fun _ => 0))), ((u_1.1 3), .inl (cA 1, 6, .inl (fun _ => 0))), ((u_1.1 4), .inl (cA 1, 6, .inl (fun _ => 0))), (q16, .inr (6, [.ref (u_2.1 0), .ref (u_2.1 1), .ref (u_2.1 2), .int 0])), ((u_2.1 0), .inl (cA 1, 12, .inl (fun _ => 0))), ((u_2.1 1), .inl (cA 1, 12, .inl (fun _ => 0))), ((u_2.1 2), .inl (cA 1, 12, .inl (fun _ => 0))), (q27, .inr (3, [.ref (u_3.1 0), .int 0])), ((u_3.1 0), .inl (cA 1, 16, .inl (fun _ => 0))), (q39, .inl (cA 2, 5, .inr (.inl f_4)))] := by rw [ef_4]; exact hD
  refine lv_dup hx hb dX2_init_45 rfl ?_
  refine lv_iconst (v := (1 : Int32)) hx hb dX2_init_46 (by decide) ?_
  refine lv_lconst (v := (1 : Int64)) hx hb dX2_init_47 (by decide) ?_
  refine va_last hx hb hK hP hD hS 13 2 rfl rfl (show pin (1 : Int32) 5 by decide +kernel) dX2_init_48 (fun H locs hP hD hS => ?_)
  obtain ⟨f_5, ef_5⟩ : ∃ z : Nat → Int64, z = vp_updL f_4 (1 : Int32).toNatClampNeg (1 : Int64) := ⟨_, rfl⟩
  have hP : va_P D vwCl [(a0, .inr (2, [.ref q5, .ref q16, .ref q27, .null, .int 0, .int 0])), (q5, .inr (0, [.ref (u_1.1 0), .ref (u_1.1 1), .ref (u_1.1 2), .ref (u_1.1 3), .ref (u_1.1 4), .int 0])), ((u_1.1 0), .inl (cA 1, 6, .inl (fun _ => 0))), ((u_1.1 1), .inl (cA 1, 6, .inl (fun _ => 0))), ((u_1.1 2), .inl (cA 1, 6, .inl (fun _ => 0))), ((u_1.1 3), .inl (cA 1, 6, .inl (fun _ => 0))), ((u_1.1 4), .inl (cA 1, 6, .inl (fun _ => 0))), (q16, .inr (6, [.ref (u_2.1 0), .ref (u_2.1 1), .ref (u_2.1 2), .int 0])), ((u_2.1 0), .inl (cA 1, 12, .inl (fun _ => 0))), ((u_2.1 1), .inl (cA 1, 12, .inl (fun _ => 0))), ((u_2.1 2), .inl (cA 1, 12, .inl (fun _ => 0))), (q27, .inr (3, [.ref (u_3.1 0), .int 0])), ((u_3.1 0), .inl (cA 1, 16, .inl (fun _ => 0))), (q39, .inl (cA 2, 5, .inr (.inl f_5)))] H := by rw [ef_5]; exact hP
  have hD : va_D A [(a0, .inr (2, [.ref q5, .ref q16, .ref q27, .null, .int 0, .int 0])), (q5, .inr (0, [.ref (u_1.1 0), .ref (u_1.1 1), .ref (u_1.1 2), .ref (u_1.1 3), .ref (u_1.1 4), .int 0])), ((u_1.1 0), .inl (cA 1, 6, .inl (fun _ => 0))), ((u_1.1 1), .inl (cA 1, 6, .inl (fun _ => 0))), ((u_1.1 2), .inl (cA 1, 6, .inl (fun _ => 0))), ((u_1.1 3), .inl (cA 1, 6, .inl (fun _ => 0))), ((u_1.1 4), .inl (cA 1, 6, .inl (fun _ => 0))), (q16, .inr (6, [.ref (u_2.1 0), .ref (u_2.1 1), .ref (u_2.1 2), .int 0])), ((u_2.1 0), .inl (cA 1, 12, .inl (fun _ => 0))), ((u_2.1 1), .inl (cA 1, 12, .inl (fun _ => 0))), ((u_2.1 2), .inl (cA 1, 12, .inl (fun _ => 0))), (q27, .inr (3, [.ref (u_3.1 0), .int 0])), ((u_3.1 0), .inl (cA 1, 16, .inl (fun _ => 0))), (q39, .inl (cA 2, 5, .inr (.inl f_5)))] := by rw [ef_5]; exact hD
  refine lv_dup hx hb dX2_init_49 rfl ?_
  refine lv_iconst (v := (2 : Int32)) hx hb dX2_init_50 (by decide) ?_
  refine lv_lconst (v := (1 : Int64)) hx hb dX2_init_51 (by decide) ?_
  refine va_last hx hb hK hP hD hS 13 2 rfl rfl (show pin (2 : Int32) 5 by decide +kernel) dX2_init_52 (fun H locs hP hD hS => ?_)
  obtain ⟨f_6, ef_6⟩ : ∃ z : Nat → Int64, z = vp_updL f_5 (2 : Int32).toNatClampNeg (1 : Int64) := ⟨_, rfl⟩
  have hP : va_P D vwCl [(a0, .inr (2, [.ref q5, .ref q16, .ref q27, .null, .int 0, .int 0])), (q5, .inr (0, [.ref (u_1.1 0), .ref (u_1.1 1), .ref (u_1.1 2), .ref (u_1.1 3), .ref (u_1.1 4), .int 0])), ((u_1.1 0), .inl (cA 1, 6, .inl (fun _ => 0))), ((u_1.1 1), .inl (cA 1, 6, .inl (fun _ => 0))), ((u_1.1 2), .inl (cA 1, 6, .inl (fun _ => 0))), ((u_1.1 3), .inl (cA 1, 6, .inl (fun _ => 0))), ((u_1.1 4), .inl (cA 1, 6, .inl (fun _ => 0))), (q16, .inr (6, [.ref (u_2.1 0), .ref (u_2.1 1), .ref (u_2.1 2), .int 0])), ((u_2.1 0), .inl (cA 1, 12, .inl (fun _ => 0))), ((u_2.1 1), .inl (cA 1, 12, .inl (fun _ => 0))), ((u_2.1 2), .inl (cA 1, 12, .inl (fun _ => 0))), (q27, .inr (3, [.ref (u_3.1 0), .int 0])), ((u_3.1 0), .inl (cA 1, 16, .inl (fun _ => 0))), (q39, .inl (cA 2, 5, .inr (.inl f_6)))] H := by rw [ef_6]; exact hP
  have hD : va_D A [(a0, .inr (2, [.ref q5, .ref q16, .ref q27, .null, .int 0, .int 0])), (q5, .inr (0, [.ref (u_1.1 0), .ref (u_1.1 1), .ref (u_1.1 2), .ref (u_1.1 3), .ref (u_1.1 4), .int 0])), ((u_1.1 0), .inl (cA 1, 6, .inl (fun _ => 0))), ((u_1.1 1), .inl (cA 1, 6, .inl (fun _ => 0))), ((u_1.1 2), .inl (cA 1, 6, .inl (fun _ => 0))), ((u_1.1 3), .inl (cA 1, 6, .inl (fun _ => 0))), ((u_1.1 4), .inl (cA 1, 6, .inl (fun _ => 0))), (q16, .inr (6, [.ref (u_2.1 0), .ref (u_2.1 1), .ref (u_2.1 2), .int 0])), ((u_2.1 0), .inl (cA 1, 12, .inl (fun _ => 0))), ((u_2.1 1), .inl (cA 1, 12, .inl (fun _ => 0))), ((u_2.1 2), .inl (cA 1, 12, .inl (fun _ => 0))), (q27, .inr (3, [.ref (u_3.1 0), .int 0])), ((u_3.1 0), .inl (cA 1, 16, .inl (fun _ => 0))), (q39, .inl (cA 2, 5, .inr (.inl f_6)))] := by rw [ef_6]; exact hD
  refine lv_dup hx hb dX2_init_53 rfl ?_
  refine lv_iconst (v := (3 : Int32)) hx hb dX2_init_54 (by decide) ?_
  refine lv_lconst (v := (1 : Int64)) hx hb dX2_init_55 (by decide) ?_
  refine va_last hx hb hK hP hD hS 13 2 rfl rfl (show pin (3 : Int32) 5 by decide +kernel) dX2_init_56 (fun H locs hP hD hS => ?_)
  obtain ⟨f_7, ef_7⟩ : ∃ z : Nat → Int64, z = vp_updL f_6 (3 : Int32).toNatClampNeg (1 : Int64) := ⟨_, rfl⟩
  have hP : va_P D vwCl [(a0, .inr (2, [.ref q5, .ref q16, .ref q27, .null, .int 0, .int 0])), (q5, .inr (0, [.ref (u_1.1 0), .ref (u_1.1 1), .ref (u_1.1 2), .ref (u_1.1 3), .ref (u_1.1 4), .int 0])), ((u_1.1 0), .inl (cA 1, 6, .inl (fun _ => 0))), ((u_1.1 1), .inl (cA 1, 6, .inl (fun _ => 0))), ((u_1.1 2), .inl (cA 1, 6, .inl (fun _ => 0))), ((u_1.1 3), .inl (cA 1, 6, .inl (fun _ => 0))), ((u_1.1 4), .inl (cA 1, 6, .inl (fun _ => 0))), (q16, .inr (6, [.ref (u_2.1 0), .ref (u_2.1 1), .ref (u_2.1 2), .int 0])), ((u_2.1 0), .inl (cA 1, 12, .inl (fun _ => 0))), ((u_2.1 1), .inl (cA 1, 12, .inl (fun _ => 0))), ((u_2.1 2), .inl (cA 1, 12, .inl (fun _ => 0))), (q27, .inr (3, [.ref (u_3.1 0), .int 0])), ((u_3.1 0), .inl (cA 1, 16, .inl (fun _ => 0))), (q39, .inl (cA 2, 5, .inr (.inl f_7)))] H := by rw [ef_7]; exact hP
  have hD : va_D A [(a0, .inr (2, [.ref q5, .ref q16, .ref q27, .null, .int 0, .int 0])), (q5, .inr (0, [.ref (u_1.1 0), .ref (u_1.1 1), .ref (u_1.1 2), .ref (u_1.1 3), .ref (u_1.1 4), .int 0])), ((u_1.1 0), .inl (cA 1, 6, .inl (fun _ => 0))), ((u_1.1 1), .inl (cA 1, 6, .inl (fun _ => 0))), ((u_1.1 2), .inl (cA 1, 6, .inl (fun _ => 0))), ((u_1.1 3), .inl (cA 1, 6, .inl (fun _ => 0))), ((u_1.1 4), .inl (cA 1, 6, .inl (fun _ => 0))), (q16, .inr (6, [.ref (u_2.1 0), .ref (u_2.1 1), .ref (u_2.1 2), .int 0])), ((u_2.1 0), .inl (cA 1, 12, .inl (fun _ => 0))), ((u_2.1 1), .inl (cA 1, 12, .inl (fun _ => 0))), ((u_2.1 2), .inl (cA 1, 12, .inl (fun _ => 0))), (q27, .inr (3, [.ref (u_3.1 0), .int 0])), ((u_3.1 0), .inl (cA 1, 16, .inl (fun _ => 0))), (q39, .inl (cA 2, 5, .inr (.inl f_7)))] := by rw [ef_7]; exact hD
  refine lv_dup hx hb dX2_init_57 rfl ?_
  refine lv_iconst (v := (4 : Int32)) hx hb dX2_init_58 (by decide) ?_
  refine lv_lconst (v := (1 : Int64)) hx hb dX2_init_59 (by decide) ?_
  refine va_last hx hb hK hP hD hS 13 2 rfl rfl (show pin (4 : Int32) 5 by decide +kernel) dX2_init_60 (fun H locs hP hD hS => ?_)
  obtain ⟨f_8, ef_8⟩ : ∃ z : Nat → Int64, z = vp_updL f_7 (4 : Int32).toNatClampNeg (1 : Int64) := ⟨_, rfl⟩
  have hP : va_P D vwCl [(a0, .inr (2, [.ref q5, .ref q16, .ref q27, .null, .int 0, .int 0])), (q5, .inr (0, [.ref (u_1.1 0), .ref (u_1.1 1), .ref (u_1.1 2), .ref (u_1.1 3), .ref (u_1.1 4), .int 0])), ((u_1.1 0), .inl (cA 1, 6, .inl (fun _ => 0))), ((u_1.1 1), .inl (cA 1, 6, .inl (fun _ => 0))), ((u_1.1 2), .inl (cA 1, 6, .inl (fun _ => 0))), ((u_1.1 3), .inl (cA 1, 6, .inl (fun _ => 0))), ((u_1.1 4), .inl (cA 1, 6, .inl (fun _ => 0))), (q16, .inr (6, [.ref (u_2.1 0), .ref (u_2.1 1), .ref (u_2.1 2), .int 0])), ((u_2.1 0), .inl (cA 1, 12, .inl (fun _ => 0))), ((u_2.1 1), .inl (cA 1, 12, .inl (fun _ => 0))), ((u_2.1 2), .inl (cA 1, 12, .inl (fun _ => 0))), (q27, .inr (3, [.ref (u_3.1 0), .int 0])), ((u_3.1 0), .inl (cA 1, 16, .inl (fun _ => 0))), (q39, .inl (cA 2, 5, .inr (.inl f_8)))] H := by rw [ef_8]; exact hP
  have hD : va_D A [(a0, .inr (2, [.ref q5, .ref q16, .ref q27, .null, .int 0, .int 0])), (q5, .inr (0, [.ref (u_1.1 0), .ref (u_1.1 1), .ref (u_1.1 2), .ref (u_1.1 3), .ref (u_1.1 4), .int 0])), ((u_1.1 0), .inl (cA 1, 6, .inl (fun _ => 0))), ((u_1.1 1), .inl (cA 1, 6, .inl (fun _ => 0))), ((u_1.1 2), .inl (cA 1, 6, .inl (fun _ => 0))), ((u_1.1 3), .inl (cA 1, 6, .inl (fun _ => 0))), ((u_1.1 4), .inl (cA 1, 6, .inl (fun _ => 0))), (q16, .inr (6, [.ref (u_2.1 0), .ref (u_2.1 1), .ref (u_2.1 2), .int 0])), ((u_2.1 0), .inl (cA 1, 12, .inl (fun _ => 0))), ((u_2.1 1), .inl (cA 1, 12, .inl (fun _ => 0))), ((u_2.1 2), .inl (cA 1, 12, .inl (fun _ => 0))), (q27, .inr (3, [.ref (u_3.1 0), .int 0])), ((u_3.1 0), .inl (cA 1, 16, .inl (fun _ => 0))), (q39, .inl (cA 2, 5, .inr (.inl f_8)))] := by rw [ef_8]; exact hD
  refine va_putF (D := D) (ci := 2) (v := .ref q39) (ty := .array .long) (C := RX2) (T := TX2) (N := 6) hx hb hts hn_X2_init_X2 tyX2 tyX2_ok nmX2 hown hK hP hD hS 0 rfl rfl 3 (by decide) (hts _ hw_X2_init_f32) (fun _ h9 => h9) rfl hin rfl (by decide +kernel) rfl rfl (Nat.le_of_ble_eq_true rfl) dX2_init_61 (fun H locs hP hD hS => ?_)
  have hP : va_P D vwCl [(a0, .inr (2, [.ref q5, .ref q16, .ref q27, .ref q39, .int 0, .int 0])), (q5, .inr (0, [.ref (u_1.1 0), .ref (u_1.1 1), .ref (u_1.1 2), .ref (u_1.1 3), .ref (u_1.1 4), .int 0])), ((u_1.1 0), .inl (cA 1, 6, .inl (fun _ => 0))), ((u_1.1 1), .inl (cA 1, 6, .inl (fun _ => 0))), ((u_1.1 2), .inl (cA 1, 6, .inl (fun _ => 0))), ((u_1.1 3), .inl (cA 1, 6, .inl (fun _ => 0))), ((u_1.1 4), .inl (cA 1, 6, .inl (fun _ => 0))), (q16, .inr (6, [.ref (u_2.1 0), .ref (u_2.1 1), .ref (u_2.1 2), .int 0])), ((u_2.1 0), .inl (cA 1, 12, .inl (fun _ => 0))), ((u_2.1 1), .inl (cA 1, 12, .inl (fun _ => 0))), ((u_2.1 2), .inl (cA 1, 12, .inl (fun _ => 0))), (q27, .inr (3, [.ref (u_3.1 0), .int 0])), ((u_3.1 0), .inl (cA 1, 16, .inl (fun _ => 0))), (q39, .inl (cA 2, 5, .inr (.inl f_8)))] H := hP
  have hD : va_D A [(a0, .inr (2, [.ref q5, .ref q16, .ref q27, .ref q39, .int 0, .int 0])), (q5, .inr (0, [.ref (u_1.1 0), .ref (u_1.1 1), .ref (u_1.1 2), .ref (u_1.1 3), .ref (u_1.1 4), .int 0])), ((u_1.1 0), .inl (cA 1, 6, .inl (fun _ => 0))), ((u_1.1 1), .inl (cA 1, 6, .inl (fun _ => 0))), ((u_1.1 2), .inl (cA 1, 6, .inl (fun _ => 0))), ((u_1.1 3), .inl (cA 1, 6, .inl (fun _ => 0))), ((u_1.1 4), .inl (cA 1, 6, .inl (fun _ => 0))), (q16, .inr (6, [.ref (u_2.1 0), .ref (u_2.1 1), .ref (u_2.1 2), .int 0])), ((u_2.1 0), .inl (cA 1, 12, .inl (fun _ => 0))), ((u_2.1 1), .inl (cA 1, 12, .inl (fun _ => 0))), ((u_2.1 2), .inl (cA 1, 12, .inl (fun _ => 0))), (q27, .inr (3, [.ref (u_3.1 0), .int 0])), ((u_3.1 0), .inl (cA 1, 16, .inl (fun _ => 0))), (q39, .inl (cA 2, 5, .inr (.inl f_8)))] := hD
  subst ef_8
  subst ef_7
  subst ef_6
  subst ef_5
  subst ef_4
  exact m_vretI (u := (fun j => [q5, (u_1.1 0), (u_1.1 1), (u_1.1 2), (u_1.1 3), (u_1.1 4), q16, (u_2.1 0), (u_2.1 1), (u_2.1 2), q27, (u_3.1 0), q39].getD j 0, fun k => [].getD k (fun _ => 0))) hx hb hr hlocks hP hD hS (Nat.le_of_ble_eq_true rfl) (Nat.le_of_ble_eq_true rfl) dX2_init_64
/-! ===== new OrphanWave$Trees()V ===== -/
abbrev rm_X10_init : Room := { frames := 1, cells := 8, slots := 192, locals := 12 }
theorem hn_X10_init_X10 : ∀ w ∈ u_ws RX10 TX10 6, w ∈ wsX10_init := by decide +kernel
theorem hw_X10_init_m3 : Cond.methodLink RX10 3 objectInit ∈ wsX10_init := by decide +kernel
theorem hw_X10_init_ioi : Cond.instanceMethod objectInit ∈ wsX10_init := by decide +kernel
theorem hw_X10_init_koi : Cond.code objectInit ⟨#[0xb1]⟩ 1 none ∈ wsX10_init := by decide +kernel
theorem hw_X10_init_acI : Cond.arrayClass .int ∈ wsX10_init := by decide +kernel
theorem hw_X10_init_f9 : Cond.fieldLink RX10 9 "OrphanWave$Trees" "livingRings" "[I" ∈ wsX10_init := by decide +kernel
theorem hw_X10_init_l15 : Cond.classLink RX10 15 "[[I" ∈ wsX10_init := by decide +kernel
theorem hw_X10_init_f17 : Cond.fieldLink RX10 17 "OrphanWave$Trees" "woodRings" "[[I" ∈ wsX10_init := by decide +kernel
theorem hw_X10_init_f20 : Cond.fieldLink RX10 20 "OrphanWave$Trees" "woodCounts" "[I" ∈ wsX10_init := by decide +kernel
theorem hw_X10_init_f23 : Cond.fieldLink RX10 23 "OrphanWave$Trees" "ends" "[I" ∈ wsX10_init := by decide +kernel
theorem hw_X10_init_f26 : Cond.fieldLink RX10 26 "OrphanWave$Trees" "firstYear" "I" ∈ wsX10_init := by decide +kernel
set_option maxRecDepth 100000 in
set_option maxHeartbeats 4000000 in
theorem ci_X10_init (l : Launch) (D : va_G) (cA : Nat → ClassId) (a0 : Nat) : CTI l yX10_init wsX10_init rm_X10_init D cA [.ref a0] [(a0, .inr (10, [.null, .null, .null, .null, .int 0, .int 0]))] (fun u : FR => ([(a0, .inr (10, [.ref (u.1 0), .ref (u.1 1), .ref (u.1 2), .ref (u.1 3), .int 0, .int (1000 : Int32)])), ((u.1 0), .inl (cA 1, 60, .inl (fun _ => 0))), ((u.1 1), .inl (cA 5, 4, .inr (.inr (.inr (.inr (gro 4 (u.2 0))))))), ((u.1 2), .inl (cA 1, 4, .inl (fun _ => 0))), ((u.1 3), .inl (cA 1, 4, .inl (fun _ => 0)))] ++ grw 4 (u.2 0) (cA 1) 30 (fun _ _ => 0))) 8 192 := by
  refine CTI.ofW (cc := cX10_init) (maxL := 1) (by decide +kernel) rfl rfl (Nat.le_of_ble_eq_true rfl) ?_
  intro p e s m below meth c A C0 hA hP hD ls hl
  have C0 : MXI p s m [.ref a0].toArray meth c cX10_init 1 wsX10_init RX10 D cA := C0
  have hl : lv_has ls 1 [(0, .ref a0)] := hl
  obtain ⟨hx, hb, hml, hown, hts, hr, hlocks, hin, hX⟩ := C0
  have hK := hX.1.1
  have hN := hX.1.2
  have hS : va_S A s.heap s.heap [] := va_S.rf
  refine lv_aload_n hx hb dX10_init_0 rfl (lv_at hl 0 rfl) ?_
  refine W.objInit hx hb hown (hts _ hw_X10_init_m3) (hts _ hw_X10_init_ioi) (hts _ hw_X10_init_koi) rfl (by rw [hml]; exact hl.1) rfl dX10_init_1 (Nat.le_of_ble_eq_true rfl) (Nat.le_of_ble_eq_true rfl) ?_
  refine W.eq (g2 := F0 m 4 ls []) rfl ?_
  refine lv_aload_n hx hb dX10_init_4 rfl (lv_at hl 0 rfl) ?_
  refine lv_bipush (v := (60 : Int32)) hx hb dX10_init_5 (by decide) ?_
  refine m_newa (atype := .int) (ty := .int) (a0 := (60, .inl (fun _ => 0))) 1 rfl rfl hx hb (hts _ hw_X10_init_acI) rfl hK hP hD hS hA (fun _ => rfl) (by decide) (by decide) (by decide) (Nat.le_of_ble_eq_true rfl) (Nat.le_of_ble_eq_true rfl) dX10_init_7 (fun q7 H hP hD hS => ?_)
  have hP : va_P D vwCl [(a0, .inr (10, [.null, .null, .null, .null, .int 0, .int 0])), (q7, .inl (cA 1, 60, .inl (fun _ => 0)))] H := hP
  have hD : va_D A [(a0, .inr (10, [.null, .null, .null, .null, .int 0, .int 0])), (q7, .inl (cA 1, 60, .inl (fun _ => 0)))] := hD
  refine W.widen (k := 1) (n := 60) (by omega) (by omega) ?_
  refine va_putF (D := D) (ci := 10) (v := .ref q7) (ty := .array .int) (C := RX10) (T := TX10) (N := 6) hx hb hts hn_X10_init_X10 tyX10 tyX10_ok nmX10 hown hK hP hD hS 0 rfl rfl 0 (by decide) (hts _ hw_X10_init_f9) (fun _ h9 => h9) rfl hin rfl (by decide +kernel) rfl rfl (Nat.le_of_ble_eq_true rfl) dX10_init_9 (fun H locs hP hD hS => ?_)
  have hP : va_P D vwCl [(a0, .inr (10, [.ref q7, .null, .null, .null, .int 0, .int 0])), (q7, .inl (cA 1, 60, .inl (fun _ => 0)))] H := hP
  have hD : va_D A [(a0, .inr (10, [.ref q7, .null, .null, .null, .int 0, .int 0])), (q7, .inl (cA 1, 60, .inl (fun _ => 0)))] := hD
  refine lv_aload_n hx hb dX10_init_12 rfl (lv_at hl 0 rfl) ?_
  refine lv_iconst (v := (4 : Int32)) hx hb dX10_init_13 (by decide) ?_
  refine lv_bipush (v := (30 : Int32)) hx hb dX10_init_14 (by decide) ?_
  refine m_mna hx hb hown (hts _ hw_X10_init_l15) hX.2.2 (hts _ hw_X10_init_acI) hK hP hD hS hA (by decide) (by decide) (N' := 4) (K' := 30) (by decide) (by decide) (by decide) (by decide) (by decide) (Nat.le_of_ble_eq_true rfl) (Nat.le_of_ble_eq_true rfl) dX10_init_16 (fun q16 r16 H hP hD hS => ?_)
  have hP : va_P D vwCl ([(a0, .inr (10, [.ref q7, .null, .null, .null, .int 0, .int 0])), (q7, .inl (cA 1, 60, .inl (fun _ => 0))), (q16, .inl (cA 5, 4, .inr (.inr (.inr (.inr (gro 4 r16))))))] ++ grw 4 r16 (cA 1) 30 (fun _ _ => 0)) H := hP
  have hD : va_D A ([(a0, .inr (10, [.ref q7, .null, .null, .null, .int 0, .int 0])), (q7, .inl (cA 1, 60, .inl (fun _ => 0))), (q16, .inl (cA 5, 4, .inr (.inr (.inr (.inr (gro 4 r16))))))] ++ grw 4 r16 (cA 1) 30 (fun _ _ => 0)) := hD
  refine W.widen (k := 6) (n := 184) (by omega) (by omega) ?_
  refine va_putF (D := D) (ci := 10) (v := .ref q16) (ty := .array (.array .int)) (C := RX10) (T := TX10) (N := 6) hx hb hts hn_X10_init_X10 tyX10 tyX10_ok nmX10 hown hK hP hD hS 0 rfl rfl 1 (by decide) (hts _ hw_X10_init_f17) (fun _ h9 => h9) rfl hin rfl (by decide +kernel) rfl rfl (Nat.le_of_ble_eq_true rfl) dX10_init_20 (fun H locs hP hD hS => ?_)
  have hP : va_P D vwCl ([(a0, .inr (10, [.ref q7, .ref q16, .null, .null, .int 0, .int 0])), (q7, .inl (cA 1, 60, .inl (fun _ => 0))), (q16, .inl (cA 5, 4, .inr (.inr (.inr (.inr (gro 4 r16))))))] ++ grw 4 r16 (cA 1) 30 (fun _ _ => 0)) H := hP
  have hD : va_D A ([(a0, .inr (10, [.ref q7, .ref q16, .null, .null, .int 0, .int 0])), (q7, .inl (cA 1, 60, .inl (fun _ => 0))), (q16, .inl (cA 5, 4, .inr (.inr (.inr (.inr (gro 4 r16))))))] ++ grw 4 r16 (cA 1) 30 (fun _ _ => 0)) := hD
  refine lv_aload_n hx hb dX10_init_23 rfl (lv_at hl 0 rfl) ?_
  refine lv_iconst (v := (4 : Int32)) hx hb dX10_init_24 (by decide) ?_
  refine m_newa (atype := .int) (ty := .int) (a0 := (4, .inl (fun _ => 0))) 1 rfl rfl hx hb (hts _ hw_X10_init_acI) rfl hK hP hD hS hA (fun _ => rfl) (by decide) (by decide) (by decide) (Nat.le_of_ble_eq_true rfl) (Nat.le_of_ble_eq_true rfl) dX10_init_25 (fun q25 H hP hD hS => ?_)
  have hP : va_P D vwCl ([(a0, .inr (10, [.ref q7, .ref q16, .null, .null, .int 0, .int 0])), (q7, .inl (cA 1, 60, .inl (fun _ => 0))), (q16, .inl (cA 5, 4, .inr (.inr (.inr (.inr (gro 4 r16))))))] ++ grw 4 r16 (cA 1) 30 (fun _ _ => 0) ++ [(q25, .inl (cA 1, 4, .inl (fun _ => 0)))]) H := hP
  have hD : va_D A ([(a0, .inr (10, [.ref q7, .ref q16, .null, .null, .int 0, .int 0])), (q7, .inl (cA 1, 60, .inl (fun _ => 0))), (q16, .inl (cA 5, 4, .inr (.inr (.inr (.inr (gro 4 r16))))))] ++ grw 4 r16 (cA 1) 30 (fun _ _ => 0) ++ [(q25, .inl (cA 1, 4, .inl (fun _ => 0)))]) := hD
  have hP := hP.sub (ws' := ([(a0, .inr (10, [.ref q7, .ref q16, .null, .null, .int 0, .int 0])), (q7, .inl (cA 1, 60, .inl (fun _ => 0))), (q16, .inl (cA 5, 4, .inr (.inr (.inr (.inr (gro 4 r16)))))), (q25, .inl (cA 1, 4, .inl (fun _ => 0)))] ++ grw 4 r16 (cA 1) 30 (fun _ _ => 0))) [0, 1, 2, 7, 3, 4, 5, 6] rfl
  have hD := hD.sub (ws' := ([(a0, .inr (10, [.ref q7, .ref q16, .null, .null, .int 0, .int 0])), (q7, .inl (cA 1, 60, .inl (fun _ => 0))), (q16, .inl (cA 5, 4, .inr (.inr (.inr (.inr (gro 4 r16)))))), (q25, .inl (cA 1, 4, .inl (fun _ => 0)))] ++ grw 4 r16 (cA 1) 30 (fun _ _ => 0))) [0, 1, 2, 7, 3, 4, 5, 6] (by decide) rfl
  refine W.widen (k := 7) (n := 188) (by omega) (by omega) ?_
  refine va_putF (D := D) (ci := 10) (v := .ref q25) (ty := .array .int) (C := RX10) (T := TX10) (N := 6) hx hb hts hn_X10_init_X10 tyX10 tyX10_ok nmX10 hown hK hP hD hS 0 rfl rfl 2 (by decide) (hts _ hw_X10_init_f20) (fun _ h9 => h9) rfl hin rfl (by decide +kernel) rfl rfl (Nat.le_of_ble_eq_true rfl) dX10_init_27 (fun H locs hP hD hS => ?_)
  have hP : va_P D vwCl ([(a0, .inr (10, [.ref q7, .ref q16, .ref q25, .null, .int 0, .int 0])), (q7, .inl (cA 1, 60, .inl (fun _ => 0))), (q16, .inl (cA 5, 4, .inr (.inr (.inr (.inr (gro 4 r16)))))), (q25, .inl (cA 1, 4, .inl (fun _ => 0)))] ++ grw 4 r16 (cA 1) 30 (fun _ _ => 0)) H := hP
  have hD : va_D A ([(a0, .inr (10, [.ref q7, .ref q16, .ref q25, .null, .int 0, .int 0])), (q7, .inl (cA 1, 60, .inl (fun _ => 0))), (q16, .inl (cA 5, 4, .inr (.inr (.inr (.inr (gro 4 r16)))))), (q25, .inl (cA 1, 4, .inl (fun _ => 0)))] ++ grw 4 r16 (cA 1) 30 (fun _ _ => 0)) := hD
  refine lv_aload_n hx hb dX10_init_30 rfl (lv_at hl 0 rfl) ?_
  refine lv_iconst (v := (4 : Int32)) hx hb dX10_init_31 (by decide) ?_
  refine m_newa (atype := .int) (ty := .int) (a0 := (4, .inl (fun _ => 0))) 1 rfl rfl hx hb (hts _ hw_X10_init_acI) rfl hK hP hD hS hA (fun _ => rfl) (by decide) (by decide) (by decide) (Nat.le_of_ble_eq_true rfl) (Nat.le_of_ble_eq_true rfl) dX10_init_32 (fun q32 H hP hD hS => ?_)
  have hP : va_P D vwCl ([(a0, .inr (10, [.ref q7, .ref q16, .ref q25, .null, .int 0, .int 0])), (q7, .inl (cA 1, 60, .inl (fun _ => 0))), (q16, .inl (cA 5, 4, .inr (.inr (.inr (.inr (gro 4 r16)))))), (q25, .inl (cA 1, 4, .inl (fun _ => 0)))] ++ grw 4 r16 (cA 1) 30 (fun _ _ => 0) ++ [(q32, .inl (cA 1, 4, .inl (fun _ => 0)))]) H := hP
  have hD : va_D A ([(a0, .inr (10, [.ref q7, .ref q16, .ref q25, .null, .int 0, .int 0])), (q7, .inl (cA 1, 60, .inl (fun _ => 0))), (q16, .inl (cA 5, 4, .inr (.inr (.inr (.inr (gro 4 r16)))))), (q25, .inl (cA 1, 4, .inl (fun _ => 0)))] ++ grw 4 r16 (cA 1) 30 (fun _ _ => 0) ++ [(q32, .inl (cA 1, 4, .inl (fun _ => 0)))]) := hD
  have hP := hP.sub (ws' := ([(a0, .inr (10, [.ref q7, .ref q16, .ref q25, .null, .int 0, .int 0])), (q7, .inl (cA 1, 60, .inl (fun _ => 0))), (q16, .inl (cA 5, 4, .inr (.inr (.inr (.inr (gro 4 r16)))))), (q25, .inl (cA 1, 4, .inl (fun _ => 0))), (q32, .inl (cA 1, 4, .inl (fun _ => 0)))] ++ grw 4 r16 (cA 1) 30 (fun _ _ => 0))) [0, 1, 2, 3, 8, 4, 5, 6, 7] rfl
  have hD := hD.sub (ws' := ([(a0, .inr (10, [.ref q7, .ref q16, .ref q25, .null, .int 0, .int 0])), (q7, .inl (cA 1, 60, .inl (fun _ => 0))), (q16, .inl (cA 5, 4, .inr (.inr (.inr (.inr (gro 4 r16)))))), (q25, .inl (cA 1, 4, .inl (fun _ => 0))), (q32, .inl (cA 1, 4, .inl (fun _ => 0)))] ++ grw 4 r16 (cA 1) 30 (fun _ _ => 0))) [0, 1, 2, 3, 8, 4, 5, 6, 7] (by decide) rfl
  refine W.widen (k := 8) (n := 192) (by omega) (by omega) ?_
  refine va_putF (D := D) (ci := 10) (v := .ref q32) (ty := .array .int) (C := RX10) (T := TX10) (N := 6) hx hb hts hn_X10_init_X10 tyX10 tyX10_ok nmX10 hown hK hP hD hS 0 rfl rfl 3 (by decide) (hts _ hw_X10_init_f23) (fun _ h9 => h9) rfl hin rfl (by decide +kernel) rfl rfl (Nat.le_of_ble_eq_true rfl) dX10_init_34 (fun H locs hP hD hS => ?_)
  have hP : va_P D vwCl ([(a0, .inr (10, [.ref q7, .ref q16, .ref q25, .ref q32, .int 0, .int 0])), (q7, .inl (cA 1, 60, .inl (fun _ => 0))), (q16, .inl (cA 5, 4, .inr (.inr (.inr (.inr (gro 4 r16)))))), (q25, .inl (cA 1, 4, .inl (fun _ => 0))), (q32, .inl (cA 1, 4, .inl (fun _ => 0)))] ++ grw 4 r16 (cA 1) 30 (fun _ _ => 0)) H := hP
  have hD : va_D A ([(a0, .inr (10, [.ref q7, .ref q16, .ref q25, .ref q32, .int 0, .int 0])), (q7, .inl (cA 1, 60, .inl (fun _ => 0))), (q16, .inl (cA 5, 4, .inr (.inr (.inr (.inr (gro 4 r16)))))), (q25, .inl (cA 1, 4, .inl (fun _ => 0))), (q32, .inl (cA 1, 4, .inl (fun _ => 0)))] ++ grw 4 r16 (cA 1) 30 (fun _ _ => 0)) := hD
  refine lv_aload_n hx hb dX10_init_37 rfl (lv_at hl 0 rfl) ?_
  refine lv_sipush (v := (1000 : Int32)) hx hb dX10_init_38 (by decide) ?_
  refine va_put (D := D) (ci := 10) (v := .int (1000 : Int32)) (ty := .int) (C := RX10) (T := TX10) (N := 6) hx hb hts hn_X10_init_X10 tyX10 tyX10_ok nmX10 hown hK hP hD hS 0 rfl rfl 5 (by decide) (hts _ hw_X10_init_f26) (fun _ h9 => h9) rfl (by decide +kernel) rfl rfl (Nat.le_of_ble_eq_true rfl) dX10_init_41 (fun H locs hP hD hS => ?_)
  have hP : va_P D vwCl ([(a0, .inr (10, [.ref q7, .ref q16, .ref q25, .ref q32, .int 0, .int (1000 : Int32)])), (q7, .inl (cA 1, 60, .inl (fun _ => 0))), (q16, .inl (cA 5, 4, .inr (.inr (.inr (.inr (gro 4 r16)))))), (q25, .inl (cA 1, 4, .inl (fun _ => 0))), (q32, .inl (cA 1, 4, .inl (fun _ => 0)))] ++ grw 4 r16 (cA 1) 30 (fun _ _ => 0)) H := hP
  have hD : va_D A ([(a0, .inr (10, [.ref q7, .ref q16, .ref q25, .ref q32, .int 0, .int (1000 : Int32)])), (q7, .inl (cA 1, 60, .inl (fun _ => 0))), (q16, .inl (cA 5, 4, .inr (.inr (.inr (.inr (gro 4 r16)))))), (q25, .inl (cA 1, 4, .inl (fun _ => 0))), (q32, .inl (cA 1, 4, .inl (fun _ => 0)))] ++ grw 4 r16 (cA 1) 30 (fun _ _ => 0)) := hD
  exact m_vretI (u := (fun j => [q7, q16, q25, q32].getD j 0, fun k => [r16].getD k (fun _ => 0))) hx hb hr hlocks hP hD hS (Nat.le_of_ble_eq_true rfl) (Nat.le_of_ble_eq_true rfl) dX10_init_44
/-! ===== new OrphanWave$Search(LOrphanWave$Ocean;LOrphanWave$Books;)V ===== -/
abbrev rm_X5_init : Room := { frames := 1, cells := 7, slots := 294, locals := 12 }
theorem hn_X5_init_X5 : ∀ w ∈ u_ws RX5 TX5 3, w ∈ wsX5_init := by decide +kernel
theorem hw_X5_init_m3 : Cond.methodLink RX5 3 objectInit ∈ wsX5_init := by decide +kernel
theorem hw_X5_init_ioi : Cond.instanceMethod objectInit ∈ wsX5_init := by decide +kernel
theorem hw_X5_init_koi : Cond.code objectInit ⟨#[0xb1]⟩ 1 none ∈ wsX5_init := by decide +kernel
theorem hw_X5_init_l9 : Cond.classLink RX5 9 "[[I" ∈ wsX5_init := by decide +kernel
theorem hw_X5_init_acI : Cond.arrayClass .int ∈ wsX5_init := by decide +kernel
theorem hw_X5_init_f11 : Cond.fieldLink RX5 11 "OrphanWave$Search" "times" "[[I" ∈ wsX5_init := by decide +kernel
theorem hw_X5_init_f16 : Cond.fieldLink RX5 16 "OrphanWave$Search" "ocean" "LOrphanWave$Ocean;" ∈ wsX5_init := by decide +kernel
theorem hw_X5_init_f20 : Cond.fieldLink RX5 20 "OrphanWave$Search" "books" "LOrphanWave$Books;" ∈ wsX5_init := by decide +kernel
set_option maxRecDepth 100000 in
set_option maxHeartbeats 4000000 in
theorem ci_X5_init (l : Launch) (D : va_G) (cA : Nat → ClassId) (a0 b1 b2 : Nat) : CTI l yX5_init wsX5_init rm_X5_init D cA [.ref a0, .ref b1, .ref b2] [(a0, .inr (5, [.null, .null, .null]))] (fun u : FR => ([(a0, .inr (5, [.ref b1, .ref b2, .ref (u.1 0)])), ((u.1 0), .inl (cA 5, 6, .inr (.inr (.inr (.inr (gro 6 (u.2 0)))))))] ++ grw 6 (u.2 0) (cA 1) 48 (fun _ _ => 0))) 7 294 := by
  refine CTI.ofW (cc := cX5_init) (maxL := 3) (by decide +kernel) rfl rfl (Nat.le_of_ble_eq_true rfl) ?_
  intro p e s m below meth c A C0 hA hP hD ls hl
  have C0 : MXI p s m [.ref a0, .ref b1, .ref b2].toArray meth c cX5_init 3 wsX5_init RX5 D cA := C0
  have hl : lv_has ls 3 [(0, .ref a0), (1, .ref b1), (2, .ref b2)] := hl
  obtain ⟨hx, hb, hml, hown, hts, hr, hlocks, hin, hX⟩ := C0
  have hK := hX.1.1
  have hN := hX.1.2
  have hS : va_S A s.heap s.heap [] := va_S.rf
  refine lv_aload_n hx hb dX5_init_0 rfl (lv_at hl 0 rfl) ?_
  refine W.objInit hx hb hown (hts _ hw_X5_init_m3) (hts _ hw_X5_init_ioi) (hts _ hw_X5_init_koi) rfl (by rw [hml]; exact hl.1) rfl dX5_init_1 (Nat.le_of_ble_eq_true rfl) (Nat.le_of_ble_eq_true rfl) ?_
  refine W.eq (g2 := F0 m 4 ls []) rfl ?_
  refine lv_aload_n hx hb dX5_init_4 rfl (lv_at hl 0 rfl) ?_
  refine lv_bipush (v := (6 : Int32)) hx hb dX5_init_5 (by decide) ?_
  refine lv_bipush (v := (48 : Int32)) hx hb dX5_init_7 (by decide) ?_
  refine m_mna hx hb hown (hts _ hw_X5_init_l9) hX.2.2 (hts _ hw_X5_init_acI) hK hP hD hS hA (by decide) (by decide) (N' := 6) (K' := 48) (by decide) (by decide) (by decide) (by decide) (by decide) (Nat.le_of_ble_eq_true rfl) (Nat.le_of_ble_eq_true rfl) dX5_init_9 (fun q9 r9 H hP hD hS => ?_)
  have hP : va_P D vwCl ([(a0, .inr (5, [.null, .null, .null])), (q9, .inl (cA 5, 6, .inr (.inr (.inr (.inr (gro 6 r9))))))] ++ grw 6 r9 (cA 1) 48 (fun _ _ => 0)) H := hP
  have hD : va_D A ([(a0, .inr (5, [.null, .null, .null])), (q9, .inl (cA 5, 6, .inr (.inr (.inr (.inr (gro 6 r9))))))] ++ grw 6 r9 (cA 1) 48 (fun _ _ => 0)) := hD
  refine W.widen (k := 7) (n := 294) (by omega) (by omega) ?_
  refine va_putF (D := D) (ci := 5) (v := .ref q9) (ty := .array (.array .int)) (C := RX5) (T := TX5) (N := 3) hx hb hts hn_X5_init_X5 tyX5 tyX5_ok nmX5 hown hK hP hD hS 0 rfl rfl 2 (by decide) (hts _ hw_X5_init_f11) (fun _ h9 => h9) rfl hin rfl (by decide +kernel) rfl rfl (Nat.le_of_ble_eq_true rfl) dX5_init_13 (fun H locs hP hD hS => ?_)
  have hP : va_P D vwCl ([(a0, .inr (5, [.null, .null, .ref q9])), (q9, .inl (cA 5, 6, .inr (.inr (.inr (.inr (gro 6 r9))))))] ++ grw 6 r9 (cA 1) 48 (fun _ _ => 0)) H := hP
  have hD : va_D A ([(a0, .inr (5, [.null, .null, .ref q9])), (q9, .inl (cA 5, 6, .inr (.inr (.inr (.inr (gro 6 r9))))))] ++ grw 6 r9 (cA 1) 48 (fun _ _ => 0)) := hD
  refine lv_aload_n hx hb dX5_init_16 rfl (lv_at hl 0 rfl) ?_
  refine lv_aload_n hx hb dX5_init_17 rfl (lv_at hl 1 rfl) ?_
  refine va_putF (D := D) (ci := 5) (v := .ref b1) (ty := .object "OrphanWave$Ocean") (C := RX5) (T := TX5) (N := 3) hx hb hts hn_X5_init_X5 tyX5 tyX5_ok nmX5 hown hK hP hD hS 0 rfl rfl 0 (by decide) (hts _ hw_X5_init_f16) (fun _ h9 => h9) rfl hin rfl (by decide +kernel) rfl rfl (Nat.le_of_ble_eq_true rfl) dX5_init_18 (fun H locs hP hD hS => ?_)
  have hP : va_P D vwCl ([(a0, .inr (5, [.ref b1, .null, .ref q9])), (q9, .inl (cA 5, 6, .inr (.inr (.inr (.inr (gro 6 r9))))))] ++ grw 6 r9 (cA 1) 48 (fun _ _ => 0)) H := hP
  have hD : va_D A ([(a0, .inr (5, [.ref b1, .null, .ref q9])), (q9, .inl (cA 5, 6, .inr (.inr (.inr (.inr (gro 6 r9))))))] ++ grw 6 r9 (cA 1) 48 (fun _ _ => 0)) := hD
  refine lv_aload_n hx hb dX5_init_21 rfl (lv_at hl 0 rfl) ?_
  refine lv_aload_n hx hb dX5_init_22 rfl (lv_at hl 2 rfl) ?_
  refine va_putF (D := D) (ci := 5) (v := .ref b2) (ty := .object "OrphanWave$Books") (C := RX5) (T := TX5) (N := 3) hx hb hts hn_X5_init_X5 tyX5 tyX5_ok nmX5 hown hK hP hD hS 0 rfl rfl 1 (by decide) (hts _ hw_X5_init_f20) (fun _ h9 => h9) rfl hin rfl (by decide +kernel) rfl rfl (Nat.le_of_ble_eq_true rfl) dX5_init_23 (fun H locs hP hD hS => ?_)
  have hP : va_P D vwCl ([(a0, .inr (5, [.ref b1, .ref b2, .ref q9])), (q9, .inl (cA 5, 6, .inr (.inr (.inr (.inr (gro 6 r9))))))] ++ grw 6 r9 (cA 1) 48 (fun _ _ => 0)) H := hP
  have hD : va_D A ([(a0, .inr (5, [.ref b1, .ref b2, .ref q9])), (q9, .inl (cA 5, 6, .inr (.inr (.inr (.inr (gro 6 r9))))))] ++ grw 6 r9 (cA 1) 48 (fun _ _ => 0)) := hD
  exact m_vretI (u := (fun j => [q9].getD j 0, fun k => [r9].getD k (fun _ => 0))) hx hb hr hlocks hP hD hS (Nat.le_of_ble_eq_true rfl) (Nat.le_of_ble_eq_true rfl) dX5_init_26
/-! ===== new OrphanWave$Signs(LOrphanWave$Findings;)V ===== -/
abbrev rm_X7_init : Room := { frames := 1, cells := 0, slots := 0, locals := 12 }
theorem hn_X7_init_X7 : ∀ w ∈ u_ws RX7 TX7 2, w ∈ wsX7_init := by decide +kernel
theorem hw_X7_init_m1 : Cond.methodLink RX7 1 objectInit ∈ wsX7_init := by decide +kernel
theorem hw_X7_init_ioi : Cond.instanceMethod objectInit ∈ wsX7_init := by decide +kernel
theorem hw_X7_init_koi : Cond.code objectInit ⟨#[0xb1]⟩ 1 none ∈ wsX7_init := by decide +kernel
theorem hw_X7_init_f7 : Cond.fieldLink RX7 7 "OrphanWave$Signs" "found" "LOrphanWave$Findings;" ∈ wsX7_init := by decide +kernel
set_option maxRecDepth 100000 in
set_option maxHeartbeats 4000000 in
theorem ci_X7_init (l : Launch) (D : va_G) (cA : Nat → ClassId) (a0 b1 : Nat) : CTI l yX7_init wsX7_init rm_X7_init D cA [.ref a0, .ref b1] [(a0, .inr (7, [.null, .long 0]))] (fun u : FR => [(a0, .inr (7, [.ref b1, .long 0]))]) 0 0 := by
  refine CTI.ofW (cc := cX7_init) (maxL := 2) (by decide +kernel) rfl rfl (Nat.le_of_ble_eq_true rfl) ?_
  intro p e s m below meth c A C0 hA hP hD ls hl
  have C0 : MXI p s m [.ref a0, .ref b1].toArray meth c cX7_init 2 wsX7_init RX7 D cA := C0
  have hl : lv_has ls 2 [(0, .ref a0), (1, .ref b1)] := hl
  obtain ⟨hx, hb, hml, hown, hts, hr, hlocks, hin, hX⟩ := C0
  have hK := hX.1.1
  have hN := hX.1.2
  have hS : va_S A s.heap s.heap [] := va_S.rf
  refine lv_aload_n hx hb dX7_init_0 rfl (lv_at hl 0 rfl) ?_
  refine W.objInit hx hb hown (hts _ hw_X7_init_m1) (hts _ hw_X7_init_ioi) (hts _ hw_X7_init_koi) rfl (by rw [hml]; exact hl.1) rfl dX7_init_1 (Nat.le_of_ble_eq_true rfl) (Nat.le_of_ble_eq_true rfl) ?_
  refine W.eq (g2 := F0 m 4 ls []) rfl ?_
  refine lv_aload_n hx hb dX7_init_4 rfl (lv_at hl 0 rfl) ?_
  refine lv_aload_n hx hb dX7_init_5 rfl (lv_at hl 1 rfl) ?_
  refine va_putF (D := D) (ci := 7) (v := .ref b1) (ty := .object "OrphanWave$Findings") (C := RX7) (T := TX7) (N := 2) hx hb hts hn_X7_init_X7 tyX7 tyX7_ok nmX7 hown hK hP hD hS 0 rfl rfl 0 (by decide) (hts _ hw_X7_init_f7) (fun _ h9 => h9) rfl hin rfl (by decide +kernel) rfl rfl (Nat.le_of_ble_eq_true rfl) dX7_init_6 (fun H locs hP hD hS => ?_)
  have hP : va_P D vwCl [(a0, .inr (7, [.ref b1, .long 0]))] H := hP
  have hD : va_D A [(a0, .inr (7, [.ref b1, .long 0]))] := hD
  exact m_vretI (u := (fun j => [].getD j 0, fun k => [].getD k (fun _ => 0))) hx hb hr hlocks hP hD hS (Nat.le_of_ble_eq_true rfl) (Nat.le_of_ble_eq_true rfl) dX7_init_9
/-! ===== new OrphanWave$Calendar()V ===== -/
abbrev rm_X1_init : Room := { frames := 1, cells := 10, slots := 120, locals := 12 }
theorem hn_X1_init_X1 : ∀ w ∈ u_ws RX1 TX1 3, w ∈ wsX1_init := by decide +kernel
theorem hw_X1_init_m3 : Cond.methodLink RX1 3 objectInit ∈ wsX1_init := by decide +kernel
theorem hw_X1_init_ioi : Cond.instanceMethod objectInit ∈ wsX1_init := by decide +kernel
theorem hw_X1_init_koi : Cond.code objectInit ⟨#[0xb1]⟩ 1 none ∈ wsX1_init := by decide +kernel
theorem hw_X1_init_l9 : Cond.classLink RX1 9 "[[I" ∈ wsX1_init := by decide +kernel
theorem hw_X1_init_acI : Cond.arrayClass .int ∈ wsX1_init := by decide +kernel
theorem hw_X1_init_f11 : Cond.fieldLink RX1 11 "OrphanWave$Calendar" "lengths" "[[I" ∈ wsX1_init := by decide +kernel
theorem hw_X1_init_f16 : Cond.fieldLink RX1 16 "OrphanWave$Calendar" "months" "[I" ∈ wsX1_init := by decide +kernel
set_option maxRecDepth 100000 in
set_option maxHeartbeats 4000000 in
theorem ci_X1_init (l : Launch) (D : va_G) (cA : Nat → ClassId) (a0 : Nat) : CTI l yX1_init wsX1_init rm_X1_init D cA [.ref a0] [(a0, .inr (1, [.null, .null, .int 0]))] (fun u : FR => ([(a0, .inr (1, [.ref (u.1 0), .ref (u.1 1), .int 0])), ((u.1 0), .inl (cA 5, 8, .inr (.inr (.inr (.inr (gro 8 (u.2 0))))))), ((u.1 1), .inl (cA 1, 8, .inl (fun _ => 0)))] ++ grw 8 (u.2 0) (cA 1) 13 (fun _ _ => 0))) 10 120 := by
  refine CTI.ofW (cc := cX1_init) (maxL := 1) (by decide +kernel) rfl rfl (Nat.le_of_ble_eq_true rfl) ?_
  intro p e s m below meth c A C0 hA hP hD ls hl
  have C0 : MXI p s m [.ref a0].toArray meth c cX1_init 1 wsX1_init RX1 D cA := C0
  have hl : lv_has ls 1 [(0, .ref a0)] := hl
  obtain ⟨hx, hb, hml, hown, hts, hr, hlocks, hin, hX⟩ := C0
  have hK := hX.1.1
  have hN := hX.1.2
  have hS : va_S A s.heap s.heap [] := va_S.rf
  refine lv_aload_n hx hb dX1_init_0 rfl (lv_at hl 0 rfl) ?_
  refine W.objInit hx hb hown (hts _ hw_X1_init_m3) (hts _ hw_X1_init_ioi) (hts _ hw_X1_init_koi) rfl (by rw [hml]; exact hl.1) rfl dX1_init_1 (Nat.le_of_ble_eq_true rfl) (Nat.le_of_ble_eq_true rfl) ?_
  refine W.eq (g2 := F0 m 4 ls []) rfl ?_
  refine lv_aload_n hx hb dX1_init_4 rfl (lv_at hl 0 rfl) ?_
  refine lv_bipush (v := (8 : Int32)) hx hb dX1_init_5 (by decide) ?_
  refine lv_bipush (v := (13 : Int32)) hx hb dX1_init_7 (by decide) ?_
  refine m_mna hx hb hown (hts _ hw_X1_init_l9) hX.2.2 (hts _ hw_X1_init_acI) hK hP hD hS hA (by decide) (by decide) (N' := 8) (K' := 13) (by decide) (by decide) (by decide) (by decide) (by decide) (Nat.le_of_ble_eq_true rfl) (Nat.le_of_ble_eq_true rfl) dX1_init_9 (fun q9 r9 H hP hD hS => ?_)
  have hP : va_P D vwCl ([(a0, .inr (1, [.null, .null, .int 0])), (q9, .inl (cA 5, 8, .inr (.inr (.inr (.inr (gro 8 r9))))))] ++ grw 8 r9 (cA 1) 13 (fun _ _ => 0)) H := hP
  have hD : va_D A ([(a0, .inr (1, [.null, .null, .int 0])), (q9, .inl (cA 5, 8, .inr (.inr (.inr (.inr (gro 8 r9))))))] ++ grw 8 r9 (cA 1) 13 (fun _ _ => 0)) := hD
  refine W.widen (k := 9) (n := 112) (by omega) (by omega) ?_
  refine va_putF (D := D) (ci := 1) (v := .ref q9) (ty := .array (.array .int)) (C := RX1) (T := TX1) (N := 3) hx hb hts hn_X1_init_X1 tyX1 tyX1_ok nmX1 hown hK hP hD hS 0 rfl rfl 0 (by decide) (hts _ hw_X1_init_f11) (fun _ h9 => h9) rfl hin rfl (by decide +kernel) rfl rfl (Nat.le_of_ble_eq_true rfl) dX1_init_13 (fun H locs hP hD hS => ?_)
  have hP : va_P D vwCl ([(a0, .inr (1, [.ref q9, .null, .int 0])), (q9, .inl (cA 5, 8, .inr (.inr (.inr (.inr (gro 8 r9))))))] ++ grw 8 r9 (cA 1) 13 (fun _ _ => 0)) H := hP
  have hD : va_D A ([(a0, .inr (1, [.ref q9, .null, .int 0])), (q9, .inl (cA 5, 8, .inr (.inr (.inr (.inr (gro 8 r9))))))] ++ grw 8 r9 (cA 1) 13 (fun _ _ => 0)) := hD
  refine lv_aload_n hx hb dX1_init_16 rfl (lv_at hl 0 rfl) ?_
  refine lv_bipush (v := (8 : Int32)) hx hb dX1_init_17 (by decide) ?_
  refine m_newa (atype := .int) (ty := .int) (a0 := (8, .inl (fun _ => 0))) 1 rfl rfl hx hb (hts _ hw_X1_init_acI) rfl hK hP hD hS hA (fun _ => rfl) (by decide) (by decide) (by decide) (Nat.le_of_ble_eq_true rfl) (Nat.le_of_ble_eq_true rfl) dX1_init_19 (fun q19 H hP hD hS => ?_)
  have hP : va_P D vwCl ([(a0, .inr (1, [.ref q9, .null, .int 0])), (q9, .inl (cA 5, 8, .inr (.inr (.inr (.inr (gro 8 r9))))))] ++ grw 8 r9 (cA 1) 13 (fun _ _ => 0) ++ [(q19, .inl (cA 1, 8, .inl (fun _ => 0)))]) H := hP
  have hD : va_D A ([(a0, .inr (1, [.ref q9, .null, .int 0])), (q9, .inl (cA 5, 8, .inr (.inr (.inr (.inr (gro 8 r9))))))] ++ grw 8 r9 (cA 1) 13 (fun _ _ => 0) ++ [(q19, .inl (cA 1, 8, .inl (fun _ => 0)))]) := hD
  have hP := hP.sub (ws' := ([(a0, .inr (1, [.ref q9, .null, .int 0])), (q9, .inl (cA 5, 8, .inr (.inr (.inr (.inr (gro 8 r9)))))), (q19, .inl (cA 1, 8, .inl (fun _ => 0)))] ++ grw 8 r9 (cA 1) 13 (fun _ _ => 0))) [0, 1, 10, 2, 3, 4, 5, 6, 7, 8, 9] rfl
  have hD := hD.sub (ws' := ([(a0, .inr (1, [.ref q9, .null, .int 0])), (q9, .inl (cA 5, 8, .inr (.inr (.inr (.inr (gro 8 r9)))))), (q19, .inl (cA 1, 8, .inl (fun _ => 0)))] ++ grw 8 r9 (cA 1) 13 (fun _ _ => 0))) [0, 1, 10, 2, 3, 4, 5, 6, 7, 8, 9] (by decide) rfl
  refine W.widen (k := 10) (n := 120) (by omega) (by omega) ?_
  refine va_putF (D := D) (ci := 1) (v := .ref q19) (ty := .array .int) (C := RX1) (T := TX1) (N := 3) hx hb hts hn_X1_init_X1 tyX1 tyX1_ok nmX1 hown hK hP hD hS 0 rfl rfl 1 (by decide) (hts _ hw_X1_init_f16) (fun _ h9 => h9) rfl hin rfl (by decide +kernel) rfl rfl (Nat.le_of_ble_eq_true rfl) dX1_init_21 (fun H locs hP hD hS => ?_)
  have hP : va_P D vwCl ([(a0, .inr (1, [.ref q9, .ref q19, .int 0])), (q9, .inl (cA 5, 8, .inr (.inr (.inr (.inr (gro 8 r9)))))), (q19, .inl (cA 1, 8, .inl (fun _ => 0)))] ++ grw 8 r9 (cA 1) 13 (fun _ _ => 0)) H := hP
  have hD : va_D A ([(a0, .inr (1, [.ref q9, .ref q19, .int 0])), (q9, .inl (cA 5, 8, .inr (.inr (.inr (.inr (gro 8 r9)))))), (q19, .inl (cA 1, 8, .inl (fun _ => 0)))] ++ grw 8 r9 (cA 1) 13 (fun _ _ => 0)) := hD
  exact m_vretI (u := (fun j => [q9, q19].getD j 0, fun k => [r9].getD k (fun _ => 0))) hx hb hr hlocks hP hD hS (Nat.le_of_ble_eq_true rfl) (Nat.le_of_ble_eq_true rfl) dX1_init_24
