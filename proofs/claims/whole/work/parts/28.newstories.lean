/-! ===== new OrphanWave$Stories(LOrphanWave$Findings;)V ===== -/
abbrev rm_X8_init : Room := { frames := 1, cells := 7, slots := 40, locals := 12 }
theorem hn_X8_init_X8 : ∀ w ∈ u_ws RX8 TX8 3, w ∈ wsX8_init := by decide +kernel
theorem hw_X8_init_m3 : Cond.methodLink RX8 3 objectInit ∈ wsX8_init := by decide +kernel
theorem hw_X8_init_ioi : Cond.instanceMethod objectInit ∈ wsX8_init := by decide +kernel
theorem hw_X8_init_koi : Cond.code objectInit ⟨#[0xb1]⟩ 1 none ∈ wsX8_init := by decide +kernel
theorem hw_X8_init_l9 : Cond.classLink RX8 9 "[[I" ∈ wsX8_init := by decide +kernel
theorem hw_X8_init_acI : Cond.arrayClass .int ∈ wsX8_init := by decide +kernel
theorem hw_X8_init_f11 : Cond.fieldLink RX8 11 "OrphanWave$Stories" "chances" "[[I" ∈ wsX8_init := by decide +kernel
theorem hw_X8_init_acJ : Cond.arrayClass .long ∈ wsX8_init := by decide +kernel
theorem hw_X8_init_f16 : Cond.fieldLink RX8 16 "OrphanWave$Stories" "behind" "[J" ∈ wsX8_init := by decide +kernel
theorem hw_X8_init_f20 : Cond.fieldLink RX8 20 "OrphanWave$Stories" "found" "LOrphanWave$Findings;" ∈ wsX8_init := by decide +kernel
def kc_X8_init_r8 : Nat → Nat → Int32 := (up2 (up2 (up2 (up2 (up2 (up2 (up2 (up2 (up2 (up2 (up2 (up2 (up2 (up2 (up2 (up2 (up2 (up2 (up2 (up2 (up2 (up2 (up2 (up2 (up2 (up2 (up2 (up2 (up2 (up2 (fun _ _ => 0) 0 0 (5 : Int32)) 0 1 (5 : Int32)) 0 2 (5 : Int32)) 0 3 (5 : Int32)) 0 4 (5 : Int32)) 0 5 (5 : Int32)) 1 0 (5 : Int32)) 1 1 (5 : Int32)) 1 2 (5 : Int32)) 1 3 (5 : Int32)) 1 4 (5 : Int32)) 1 5 (5 : Int32)) 2 0 (5 : Int32)) 2 1 (5 : Int32)) 2 2 (5 : Int32)) 2 3 (5 : Int32)) 2 4 (5 : Int32)) 2 5 (5 : Int32)) 3 0 (5 : Int32)) 3 1 (5 : Int32)) 3 2 (5 : Int32)) 3 3 (5 : Int32)) 3 4 (5 : Int32)) 3 5 (5 : Int32)) 4 0 (5 : Int32)) 4 1 (5 : Int32)) 4 2 (5 : Int32)) 4 3 (5 : Int32)) 4 4 (5 : Int32)) 4 5 (5 : Int32))
set_option maxRecDepth 100000 in
set_option maxHeartbeats 4000000 in
theorem ci_X8_init (l : Launch) (D : va_G) (cA : Nat → ClassId) (a0 b1 : Nat) : CTI l yX8_init wsX8_init rm_X8_init D cA [.ref a0, .ref b1] [(a0, .inr (8, [.null, .null, .null]))] (fun u : FR => ([(a0, .inr (8, [.ref b1, .ref (u.1 0), .ref (u.1 1)])), ((u.1 0), .inl (cA 5, 5, .inr (.inr (.inr (.inr (gro 5 (u.2 0))))))), ((u.1 1), .inl (cA 2, 5, .inr (.inl (fun _ => 0))))] ++ grw 5 (u.2 0) (cA 1) 6 kc_X8_init_r8)) 7 40 := by
  refine CTI.ofW (cc := cX8_init) (maxL := 4) (by decide +kernel) rfl rfl (Nat.le_of_ble_eq_true rfl) ?_
  intro p e s m below meth c A C0 hA hP hD ls hl
  have C0 : MXI p s m [.ref a0, .ref b1].toArray meth c cX8_init 4 wsX8_init RX8 D cA := C0
  have hl : lv_has ls 4 [(0, .ref a0), (1, .ref b1)] := hl
  obtain ⟨hx, hb, hml, hown, hts, hr, hlocks, hin, hX⟩ := C0
  have hK := hX.1.1
  have hN := hX.1.2
  have hS : va_S A s.heap s.heap [] := va_S.rf
  refine lv_aload_n hx hb dX8_init_0 rfl (lv_at hl 0 rfl) ?_
  refine W.objInit hx hb hown (hts _ hw_X8_init_m3) (hts _ hw_X8_init_ioi) (hts _ hw_X8_init_koi) rfl (by rw [hml]; exact hl.1) rfl dX8_init_1 (Nat.le_of_ble_eq_true rfl) (Nat.le_of_ble_eq_true rfl) ?_
  refine W.eq (g2 := F0 m 4 ls []) rfl ?_
  refine lv_aload_n hx hb dX8_init_4 rfl (lv_at hl 0 rfl) ?_
  refine lv_iconst (v := (5 : Int32)) hx hb dX8_init_5 (by decide) ?_
  refine lv_bipush (v := (6 : Int32)) hx hb dX8_init_6 (by decide) ?_
  refine m_mna hx hb hown (hts _ hw_X8_init_l9) hX.2.2 (hts _ hw_X8_init_acI) hK hP hD hS hA (by decide) (by decide) (N' := 5) (K' := 6) (by decide) (by decide) (by decide) (by decide) (by decide) (Nat.le_of_ble_eq_true rfl) (Nat.le_of_ble_eq_true rfl) dX8_init_8 (fun q8 r8 H hP hD hS => ?_)
  have hP : va_P D vwCl ([(a0, .inr (8, [.null, .null, .null])), (q8, .inl (cA 5, 5, .inr (.inr (.inr (.inr (gro 5 r8))))))] ++ grw 5 r8 (cA 1) 6 (fun _ _ => 0)) H := hP
  have hD : va_D A ([(a0, .inr (8, [.null, .null, .null])), (q8, .inl (cA 5, 5, .inr (.inr (.inr (.inr (gro 5 r8))))))] ++ grw 5 r8 (cA 1) 6 (fun _ _ => 0)) := hD
  refine W.widen (k := 6) (n := 35) (by omega) (by omega) ?_
  refine va_putF (D := D) (ci := 8) (v := .ref q8) (ty := .array (.array .int)) (C := RX8) (T := TX8) (N := 3) hx hb hts hn_X8_init_X8 tyX8 tyX8_ok nmX8 hown hK hP hD hS 0 rfl rfl 1 (by decide) (hts _ hw_X8_init_f11) (fun _ h9 => h9) rfl hin rfl (by decide +kernel) rfl rfl (Nat.le_of_ble_eq_true rfl) dX8_init_12 (fun H locs hP hD hS => ?_)
  have hP : va_P D vwCl ([(a0, .inr (8, [.null, .ref q8, .null])), (q8, .inl (cA 5, 5, .inr (.inr (.inr (.inr (gro 5 r8))))))] ++ grw 5 r8 (cA 1) 6 (fun _ _ => 0)) H := hP
  have hD : va_D A ([(a0, .inr (8, [.null, .ref q8, .null])), (q8, .inl (cA 5, 5, .inr (.inr (.inr (.inr (gro 5 r8))))))] ++ grw 5 r8 (cA 1) 6 (fun _ _ => 0)) := hD
  refine lv_aload_n hx hb dX8_init_15 rfl (lv_at hl 0 rfl) ?_
  refine lv_iconst (v := (5 : Int32)) hx hb dX8_init_16 (by decide) ?_
  refine m_newa (atype := .long) (ty := .long) (a0 := (5, .inr (.inl (fun _ => 0)))) 2 rfl rfl hx hb (hts _ hw_X8_init_acJ) rfl hK hP hD hS hA (fun _ => rfl) (by decide) (by decide) (by decide) (Nat.le_of_ble_eq_true rfl) (Nat.le_of_ble_eq_true rfl) dX8_init_17 (fun q17 H hP hD hS => ?_)
  have hP : va_P D vwCl ([(a0, .inr (8, [.null, .ref q8, .null])), (q8, .inl (cA 5, 5, .inr (.inr (.inr (.inr (gro 5 r8))))))] ++ grw 5 r8 (cA 1) 6 (fun _ _ => 0) ++ [(q17, .inl (cA 2, 5, .inr (.inl (fun _ => 0))))]) H := hP
  have hD : va_D A ([(a0, .inr (8, [.null, .ref q8, .null])), (q8, .inl (cA 5, 5, .inr (.inr (.inr (.inr (gro 5 r8))))))] ++ grw 5 r8 (cA 1) 6 (fun _ _ => 0) ++ [(q17, .inl (cA 2, 5, .inr (.inl (fun _ => 0))))]) := hD
  have hP := hP.sub (ws' := ([(a0, .inr (8, [.null, .ref q8, .null])), (q8, .inl (cA 5, 5, .inr (.inr (.inr (.inr (gro 5 r8)))))), (q17, .inl (cA 2, 5, .inr (.inl (fun _ => 0))))] ++ grw 5 r8 (cA 1) 6 (fun _ _ => 0))) [0, 1, 7, 2, 3, 4, 5, 6] rfl
  have hD := hD.sub (ws' := ([(a0, .inr (8, [.null, .ref q8, .null])), (q8, .inl (cA 5, 5, .inr (.inr (.inr (.inr (gro 5 r8)))))), (q17, .inl (cA 2, 5, .inr (.inl (fun _ => 0))))] ++ grw 5 r8 (cA 1) 6 (fun _ _ => 0))) [0, 1, 7, 2, 3, 4, 5, 6] (by decide) rfl
  refine W.widen (k := 7) (n := 40) (by omega) (by omega) ?_
  refine va_putF (D := D) (ci := 8) (v := .ref q17) (ty := .array .long) (C := RX8) (T := TX8) (N := 3) hx hb hts hn_X8_init_X8 tyX8 tyX8_ok nmX8 hown hK hP hD hS 0 rfl rfl 2 (by decide) (hts _ hw_X8_init_f16) (fun _ h9 => h9) rfl hin rfl (by decide +kernel) rfl rfl (Nat.le_of_ble_eq_true rfl) dX8_init_19 (fun H locs hP hD hS => ?_)
  have hP : va_P D vwCl ([(a0, .inr (8, [.null, .ref q8, .ref q17])), (q8, .inl (cA 5, 5, .inr (.inr (.inr (.inr (gro 5 r8)))))), (q17, .inl (cA 2, 5, .inr (.inl (fun _ => 0))))] ++ grw 5 r8 (cA 1) 6 (fun _ _ => 0)) H := hP
  have hD : va_D A ([(a0, .inr (8, [.null, .ref q8, .ref q17])), (q8, .inl (cA 5, 5, .inr (.inr (.inr (.inr (gro 5 r8)))))), (q17, .inl (cA 2, 5, .inr (.inl (fun _ => 0))))] ++ grw 5 r8 (cA 1) 6 (fun _ _ => 0)) := hD
  refine lv_aload_n hx hb dX8_init_22 rfl (lv_at hl 0 rfl) ?_
  refine lv_aload_n hx hb dX8_init_23 rfl (lv_at hl 1 rfl) ?_
  refine va_putF (D := D) (ci := 8) (v := .ref b1) (ty := .object "OrphanWave$Findings") (C := RX8) (T := TX8) (N := 3) hx hb hts hn_X8_init_X8 tyX8 tyX8_ok nmX8 hown hK hP hD hS 0 rfl rfl 0 (by decide) (hts _ hw_X8_init_f20) (fun _ h9 => h9) rfl hin rfl (by decide +kernel) rfl rfl (Nat.le_of_ble_eq_true rfl) dX8_init_24 (fun H locs hP hD hS => ?_)
  have hP : va_P D vwCl ([(a0, .inr (8, [.ref b1, .ref q8, .ref q17])), (q8, .inl (cA 5, 5, .inr (.inr (.inr (.inr (gro 5 r8)))))), (q17, .inl (cA 2, 5, .inr (.inl (fun _ => 0))))] ++ grw 5 r8 (cA 1) 6 (fun _ _ => 0)) H := hP
  have hD : va_D A ([(a0, .inr (8, [.ref b1, .ref q8, .ref q17])), (q8, .inl (cA 5, 5, .inr (.inr (.inr (.inr (gro 5 r8)))))), (q17, .inl (cA 2, 5, .inr (.inl (fun _ => 0))))] ++ grw 5 r8 (cA 1) 6 (fun _ _ => 0)) := hD
  refine lv_iconst (v := (0 : Int32)) hx hb dX8_init_27 (by decide) ?_
  refine lv_istore_n (lv' := [(2, .int (0 : Int32)), (0, .ref a0), (1, .ref b1)]) hx hb dX8_init_28 rfl hl (by decide) rfl (fun ls hl => ?_)
  refine lv_iload_n hx hb dX8_init_29 rfl (lv_at hl 0 rfl) ?_
  refine lv_iconst (v := (5 : Int32)) hx hb dX8_init_30 (by decide) ?_
  refine lv_icmp_ge (tgt := 63) hx hb dX8_init_31 (by decide) (fun c_1 => ?_) (fun c_1 => ?_)
  · exact absurd c_1 (by decide)
  refine lv_iconst (v := (0 : Int32)) hx hb dX8_init_34 (by decide) ?_
  refine lv_istore_n (lv' := [(3, .int (0 : Int32)), (2, .int (0 : Int32)), (0, .ref a0), (1, .ref b1)]) hx hb dX8_init_35 rfl hl (by decide) rfl (fun ls hl => ?_)
  refine lv_iload_n hx hb dX8_init_36 rfl (lv_at hl 0 rfl) ?_
  refine lv_bipush (v := (6 : Int32)) hx hb dX8_init_37 (by decide) ?_
  refine lv_icmp_ge (tgt := 57) hx hb dX8_init_39 (by decide) (fun c_2 => ?_) (fun c_2 => ?_)
  · exact absurd c_2 (by decide)
  refine lv_aload_n hx hb dX8_init_42 rfl (lv_at hl 2 rfl) ?_
  refine va_get (D := D) (ci := 8) (v := .ref q8) (C := RX8) (T := TX8) (N := 3) hx hb hts hn_X8_init_X8 hown hK hP 0 rfl rfl 1 (by decide) (hts _ hw_X8_init_f11) (fun _ h9 => h9) rfl dX8_init_43 ?_
  refine lv_iload_n hx hb dX8_init_46 rfl (lv_at hl 1 rfl) ?_
  refine m_aald hx hb hK hP 1 rfl (show pin (0 : Int32) 5 by decide +kernel) dX8_init_47 ?_
  refine lv_iload_n hx hb dX8_init_48 rfl (lv_at hl 0 rfl) ?_
  refine lv_iconst (v := (5 : Int32)) hx hb dX8_init_49 (by decide) ?_
  refine m_rast (i := (0 : Int32)) hx hb hK hP hD hS rfl (show pin (0 : Int32) 5 by decide +kernel) (show pin (0 : Int32) 6 by decide +kernel) dX8_init_50 (fun H locs hP hD hS => ?_)
  obtain ⟨f_3, ef_3⟩ : ∃ z : Nat → Nat → Int32, z = up2 (fun _ _ => 0) (0 : Int32).toNatClampNeg (0 : Int32).toNatClampNeg (5 : Int32) := ⟨_, rfl⟩
  have hP : va_P D vwCl ([(a0, .inr (8, [.ref b1, .ref q8, .ref q17])), (q8, .inl (cA 5, 5, .inr (.inr (.inr (.inr (gro 5 r8)))))), (q17, .inl (cA 2, 5, .inr (.inl (fun _ => 0))))] ++ grw 5 r8 (cA 1) 6 f_3) H := by rw [ef_3]; exact hP
  have hD : va_D A ([(a0, .inr (8, [.ref b1, .ref q8, .ref q17])), (q8, .inl (cA 5, 5, .inr (.inr (.inr (.inr (gro 5 r8)))))), (q17, .inl (cA 2, 5, .inr (.inl (fun _ => 0))))] ++ grw 5 r8 (cA 1) 6 f_3) := by rw [ef_3]; exact hD
  refine lv_iinc (v := (1 : Int32)) (lv' := [(3, .int (1 : Int32)), (2, .int (0 : Int32)), (0, .ref a0), (1, .ref b1)]) hx hb dX8_init_51 hl (k := 0) rfl (by decide) (by decide) rfl (fun ls hl => ?_)
  refine lv_goto (tgt := 36) hx hb dX8_init_54 (by decide) ?_
  refine lv_iload_n hx hb dX8_init_36 rfl (lv_at hl 0 rfl) ?_
  refine lv_bipush (v := (6 : Int32)) hx hb dX8_init_37 (by decide) ?_
  refine lv_icmp_ge (tgt := 57) hx hb dX8_init_39 (by decide) (fun c_4 => ?_) (fun c_4 => ?_)
  · exact absurd c_4 (by decide)
  refine lv_aload_n hx hb dX8_init_42 rfl (lv_at hl 2 rfl) ?_
  refine va_get (D := D) (ci := 8) (v := .ref q8) (C := RX8) (T := TX8) (N := 3) hx hb hts hn_X8_init_X8 hown hK hP 0 rfl rfl 1 (by decide) (hts _ hw_X8_init_f11) (fun _ h9 => h9) rfl dX8_init_43 ?_
  refine lv_iload_n hx hb dX8_init_46 rfl (lv_at hl 1 rfl) ?_
  refine m_aald hx hb hK hP 1 rfl (show pin (0 : Int32) 5 by decide +kernel) dX8_init_47 ?_
  refine lv_iload_n hx hb dX8_init_48 rfl (lv_at hl 0 rfl) ?_
  refine lv_iconst (v := (5 : Int32)) hx hb dX8_init_49 (by decide) ?_
  refine m_rast (i := (0 : Int32)) hx hb hK hP hD hS rfl (show pin (0 : Int32) 5 by decide +kernel) (show pin (1 : Int32) 6 by decide +kernel) dX8_init_50 (fun H locs hP hD hS => ?_)
  obtain ⟨f_5, ef_5⟩ : ∃ z : Nat → Nat → Int32, z = up2 f_3 (0 : Int32).toNatClampNeg (1 : Int32).toNatClampNeg (5 : Int32) := ⟨_, rfl⟩
  have hP : va_P D vwCl ([(a0, .inr (8, [.ref b1, .ref q8, .ref q17])), (q8, .inl (cA 5, 5, .inr (.inr (.inr (.inr (gro 5 r8)))))), (q17, .inl (cA 2, 5, .inr (.inl (fun _ => 0))))] ++ grw 5 r8 (cA 1) 6 f_5) H := by rw [ef_5]; exact hP
  have hD : va_D A ([(a0, .inr (8, [.ref b1, .ref q8, .ref q17])), (q8, .inl (cA 5, 5, .inr (.inr (.inr (.inr (gro 5 r8)))))), (q17, .inl (cA 2, 5, .inr (.inl (fun _ => 0))))] ++ grw 5 r8 (cA 1) 6 f_5) := by rw [ef_5]; exact hD
  refine lv_iinc (v := (2 : Int32)) (lv' := [(3, .int (2 : Int32)), (2, .int (0 : Int32)), (0, .ref a0), (1, .ref b1)]) hx hb dX8_init_51 hl (k := 0) rfl (by decide) (by decide) rfl (fun ls hl => ?_)
  refine lv_goto (tgt := 36) hx hb dX8_init_54 (by decide) ?_
  refine lv_iload_n hx hb dX8_init_36 rfl (lv_at hl 0 rfl) ?_
  refine lv_bipush (v := (6 : Int32)) hx hb dX8_init_37 (by decide) ?_
  refine lv_icmp_ge (tgt := 57) hx hb dX8_init_39 (by decide) (fun c_6 => ?_) (fun c_6 => ?_)
  · exact absurd c_6 (by decide)
  refine lv_aload_n hx hb dX8_init_42 rfl (lv_at hl 2 rfl) ?_
  refine va_get (D := D) (ci := 8) (v := .ref q8) (C := RX8) (T := TX8) (N := 3) hx hb hts hn_X8_init_X8 hown hK hP 0 rfl rfl 1 (by decide) (hts _ hw_X8_init_f11) (fun _ h9 => h9) rfl dX8_init_43 ?_
  refine lv_iload_n hx hb dX8_init_46 rfl (lv_at hl 1 rfl) ?_
  refine m_aald hx hb hK hP 1 rfl (show pin (0 : Int32) 5 by decide +kernel) dX8_init_47 ?_
  refine lv_iload_n hx hb dX8_init_48 rfl (lv_at hl 0 rfl) ?_
  refine lv_iconst (v := (5 : Int32)) hx hb dX8_init_49 (by decide) ?_
  refine m_rast (i := (0 : Int32)) hx hb hK hP hD hS rfl (show pin (0 : Int32) 5 by decide +kernel) (show pin (2 : Int32) 6 by decide +kernel) dX8_init_50 (fun H locs hP hD hS => ?_)
  obtain ⟨f_7, ef_7⟩ : ∃ z : Nat → Nat → Int32, z = up2 f_5 (0 : Int32).toNatClampNeg (2 : Int32).toNatClampNeg (5 : Int32) := ⟨_, rfl⟩
  have hP : va_P D vwCl ([(a0, .inr (8, [.ref b1, .ref q8, .ref q17])), (q8, .inl (cA 5, 5, .inr (.inr (.inr (.inr (gro 5 r8)))))), (q17, .inl (cA 2, 5, .inr (.inl (fun _ => 0))))] ++ grw 5 r8 (cA 1) 6 f_7) H := by rw [ef_7]; exact hP
  have hD : va_D A ([(a0, .inr (8, [.ref b1, .ref q8, .ref q17])), (q8, .inl (cA 5, 5, .inr (.inr (.inr (.inr (gro 5 r8)))))), (q17, .inl (cA 2, 5, .inr (.inl (fun _ => 0))))] ++ grw 5 r8 (cA 1) 6 f_7) := by rw [ef_7]; exact hD
  refine lv_iinc (v := (3 : Int32)) (lv' := [(3, .int (3 : Int32)), (2, .int (0 : Int32)), (0, .ref a0), (1, .ref b1)]) hx hb dX8_init_51 hl (k := 0) rfl (by decide) (by decide) rfl (fun ls hl => ?_)
  refine lv_goto (tgt := 36) hx hb dX8_init_54 (by decide) ?_
  refine lv_iload_n hx hb dX8_init_36 rfl (lv_at hl 0 rfl) ?_
  refine lv_bipush (v := (6 : Int32)) hx hb dX8_init_37 (by decide) ?_
  refine lv_icmp_ge (tgt := 57) hx hb dX8_init_39 (by decide) (fun c_8 => ?_) (fun c_8 => ?_)
  · exact absurd c_8 (by decide)
  refine lv_aload_n hx hb dX8_init_42 rfl (lv_at hl 2 rfl) ?_
  refine va_get (D := D) (ci := 8) (v := .ref q8) (C := RX8) (T := TX8) (N := 3) hx hb hts hn_X8_init_X8 hown hK hP 0 rfl rfl 1 (by decide) (hts _ hw_X8_init_f11) (fun _ h9 => h9) rfl dX8_init_43 ?_
  refine lv_iload_n hx hb dX8_init_46 rfl (lv_at hl 1 rfl) ?_
  refine m_aald hx hb hK hP 1 rfl (show pin (0 : Int32) 5 by decide +kernel) dX8_init_47 ?_
  refine lv_iload_n hx hb dX8_init_48 rfl (lv_at hl 0 rfl) ?_
  refine lv_iconst (v := (5 : Int32)) hx hb dX8_init_49 (by decide) ?_
  refine m_rast (i := (0 : Int32)) hx hb hK hP hD hS rfl (show pin (0 : Int32) 5 by decide +kernel) (show pin (3 : Int32) 6 by decide +kernel) dX8_init_50 (fun H locs hP hD hS => ?_)
  obtain ⟨f_9, ef_9⟩ : ∃ z : Nat → Nat → Int32, z = up2 f_7 (0 : Int32).toNatClampNeg (3 : Int32).toNatClampNeg (5 : Int32) := ⟨_, rfl⟩
  have hP : va_P D vwCl ([(a0, .inr (8, [.ref b1, .ref q8, .ref q17])), (q8, .inl (cA 5, 5, .inr (.inr (.inr (.inr (gro 5 r8)))))), (q17, .inl (cA 2, 5, .inr (.inl (fun _ => 0))))] ++ grw 5 r8 (cA 1) 6 f_9) H := by rw [ef_9]; exact hP
  have hD : va_D A ([(a0, .inr (8, [.ref b1, .ref q8, .ref q17])), (q8, .inl (cA 5, 5, .inr (.inr (.inr (.inr (gro 5 r8)))))), (q17, .inl (cA 2, 5, .inr (.inl (fun _ => 0))))] ++ grw 5 r8 (cA 1) 6 f_9) := by rw [ef_9]; exact hD
  refine lv_iinc (v := (4 : Int32)) (lv' := [(3, .int (4 : Int32)), (2, .int (0 : Int32)), (0, .ref a0), (1, .ref b1)]) hx hb dX8_init_51 hl (k := 0) rfl (by decide) (by decide) rfl (fun ls hl => ?_)
  refine lv_goto (tgt := 36) hx hb dX8_init_54 (by decide) ?_
  refine lv_iload_n hx hb dX8_init_36 rfl (lv_at hl 0 rfl) ?_
  refine lv_bipush (v := (6 : Int32)) hx hb dX8_init_37 (by decide) ?_
  refine lv_icmp_ge (tgt := 57) hx hb dX8_init_39 (by decide) (fun c_10 => ?_) (fun c_10 => ?_)
  · exact absurd c_10 (by decide)
  refine lv_aload_n hx hb dX8_init_42 rfl (lv_at hl 2 rfl) ?_
  refine va_get (D := D) (ci := 8) (v := .ref q8) (C := RX8) (T := TX8) (N := 3) hx hb hts hn_X8_init_X8 hown hK hP 0 rfl rfl 1 (by decide) (hts _ hw_X8_init_f11) (fun _ h9 => h9) rfl dX8_init_43 ?_
  refine lv_iload_n hx hb dX8_init_46 rfl (lv_at hl 1 rfl) ?_
  refine m_aald hx hb hK hP 1 rfl (show pin (0 : Int32) 5 by decide +kernel) dX8_init_47 ?_
  refine lv_iload_n hx hb dX8_init_48 rfl (lv_at hl 0 rfl) ?_
  refine lv_iconst (v := (5 : Int32)) hx hb dX8_init_49 (by decide) ?_
  refine m_rast (i := (0 : Int32)) hx hb hK hP hD hS rfl (show pin (0 : Int32) 5 by decide +kernel) (show pin (4 : Int32) 6 by decide +kernel) dX8_init_50 (fun H locs hP hD hS => ?_)
  obtain ⟨f_11, ef_11⟩ : ∃ z : Nat → Nat → Int32, z = up2 f_9 (0 : Int32).toNatClampNeg (4 : Int32).toNatClampNeg (5 : Int32) := ⟨_, rfl⟩
  have hP : va_P D vwCl ([(a0, .inr (8, [.ref b1, .ref q8, .ref q17])), (q8, .inl (cA 5, 5, .inr (.inr (.inr (.inr (gro 5 r8)))))), (q17, .inl (cA 2, 5, .inr (.inl (fun _ => 0))))] ++ grw 5 r8 (cA 1) 6 f_11) H := by rw [ef_11]; exact hP
  have hD : va_D A ([(a0, .inr (8, [.ref b1, .ref q8, .ref q17])), (q8, .inl (cA 5, 5, .inr (.inr (.inr (.inr (gro 5 r8)))))), (q17, .inl (cA 2, 5, .inr (.inl (fun _ => 0))))] ++ grw 5 r8 (cA 1) 6 f_11) := by rw [ef_11]; exact hD
  refine lv_iinc (v := (5 : Int32)) (lv' := [(3, .int (5 : Int32)), (2, .int (0 : Int32)), (0, .ref a0), (1, .ref b1)]) hx hb dX8_init_51 hl (k := 0) rfl (by decide) (by decide) rfl (fun ls hl => ?_)
  refine lv_goto (tgt := 36) hx hb dX8_init_54 (by decide) ?_
  refine lv_iload_n hx hb dX8_init_36 rfl (lv_at hl 0 rfl) ?_
  refine lv_bipush (v := (6 : Int32)) hx hb dX8_init_37 (by decide) ?_
  refine lv_icmp_ge (tgt := 57) hx hb dX8_init_39 (by decide) (fun c_12 => ?_) (fun c_12 => ?_)
  · exact absurd c_12 (by decide)
  refine lv_aload_n hx hb dX8_init_42 rfl (lv_at hl 2 rfl) ?_
  refine va_get (D := D) (ci := 8) (v := .ref q8) (C := RX8) (T := TX8) (N := 3) hx hb hts hn_X8_init_X8 hown hK hP 0 rfl rfl 1 (by decide) (hts _ hw_X8_init_f11) (fun _ h9 => h9) rfl dX8_init_43 ?_
  refine lv_iload_n hx hb dX8_init_46 rfl (lv_at hl 1 rfl) ?_
  refine m_aald hx hb hK hP 1 rfl (show pin (0 : Int32) 5 by decide +kernel) dX8_init_47 ?_
  refine lv_iload_n hx hb dX8_init_48 rfl (lv_at hl 0 rfl) ?_
  refine lv_iconst (v := (5 : Int32)) hx hb dX8_init_49 (by decide) ?_
  refine m_rast (i := (0 : Int32)) hx hb hK hP hD hS rfl (show pin (0 : Int32) 5 by decide +kernel) (show pin (5 : Int32) 6 by decide +kernel) dX8_init_50 (fun H locs hP hD hS => ?_)
  obtain ⟨f_13, ef_13⟩ : ∃ z : Nat → Nat → Int32, z = up2 f_11 (0 : Int32).toNatClampNeg (5 : Int32).toNatClampNeg (5 : Int32) := ⟨_, rfl⟩
  have hP : va_P D vwCl ([(a0, .inr (8, [.ref b1, .ref q8, .ref q17])), (q8, .inl (cA 5, 5, .inr (.inr (.inr (.inr (gro 5 r8)))))), (q17, .inl (cA 2, 5, .inr (.inl (fun _ => 0))))] ++ grw 5 r8 (cA 1) 6 f_13) H := by rw [ef_13]; exact hP
  have hD : va_D A ([(a0, .inr (8, [.ref b1, .ref q8, .ref q17])), (q8, .inl (cA 5, 5, .inr (.inr (.inr (.inr (gro 5 r8)))))), (q17, .inl (cA 2, 5, .inr (.inl (fun _ => 0))))] ++ grw 5 r8 (cA 1) 6 f_13) := by rw [ef_13]; exact hD
  refine lv_iinc (v := (6 : Int32)) (lv' := [(3, .int (6 : Int32)), (2, .int (0 : Int32)), (0, .ref a0), (1, .ref b1)]) hx hb dX8_init_51 hl (k := 0) rfl (by decide) (by decide) rfl (fun ls hl => ?_)
  refine lv_goto (tgt := 36) hx hb dX8_init_54 (by decide) ?_
  refine lv_iload_n hx hb dX8_init_36 rfl (lv_at hl 0 rfl) ?_
  refine lv_bipush (v := (6 : Int32)) hx hb dX8_init_37 (by decide) ?_
  refine lv_icmp_ge (tgt := 57) hx hb dX8_init_39 (by decide) (fun c_14 => ?_) (fun c_14 => ?_)
  rotate_left
  · exact absurd (by decide) c_14
  refine lv_iinc (v := (1 : Int32)) (lv' := [(2, .int (1 : Int32)), (3, .int (6 : Int32)), (0, .ref a0), (1, .ref b1)]) hx hb dX8_init_57 hl (k := 1) rfl (by decide) (by decide) rfl (fun ls hl => ?_)
  refine lv_goto (tgt := 29) hx hb dX8_init_60 (by decide) ?_
  refine lv_iload_n hx hb dX8_init_29 rfl (lv_at hl 0 rfl) ?_
  refine lv_iconst (v := (5 : Int32)) hx hb dX8_init_30 (by decide) ?_
  refine lv_icmp_ge (tgt := 63) hx hb dX8_init_31 (by decide) (fun c_15 => ?_) (fun c_15 => ?_)
  · exact absurd c_15 (by decide)
  refine lv_iconst (v := (0 : Int32)) hx hb dX8_init_34 (by decide) ?_
  refine lv_istore_n (lv' := [(3, .int (0 : Int32)), (2, .int (1 : Int32)), (0, .ref a0), (1, .ref b1)]) hx hb dX8_init_35 rfl hl (by decide) rfl (fun ls hl => ?_)
  refine lv_iload_n hx hb dX8_init_36 rfl (lv_at hl 0 rfl) ?_
  refine lv_bipush (v := (6 : Int32)) hx hb dX8_init_37 (by decide) ?_
  refine lv_icmp_ge (tgt := 57) hx hb dX8_init_39 (by decide) (fun c_16 => ?_) (fun c_16 => ?_)
  · exact absurd c_16 (by decide)
  refine lv_aload_n hx hb dX8_init_42 rfl (lv_at hl 2 rfl) ?_
  refine va_get (D := D) (ci := 8) (v := .ref q8) (C := RX8) (T := TX8) (N := 3) hx hb hts hn_X8_init_X8 hown hK hP 0 rfl rfl 1 (by decide) (hts _ hw_X8_init_f11) (fun _ h9 => h9) rfl dX8_init_43 ?_
  refine lv_iload_n hx hb dX8_init_46 rfl (lv_at hl 1 rfl) ?_
  refine m_aald hx hb hK hP 1 rfl (show pin (1 : Int32) 5 by decide +kernel) dX8_init_47 ?_
  refine lv_iload_n hx hb dX8_init_48 rfl (lv_at hl 0 rfl) ?_
  refine lv_iconst (v := (5 : Int32)) hx hb dX8_init_49 (by decide) ?_
  refine m_rast (i := (1 : Int32)) hx hb hK hP hD hS rfl (show pin (1 : Int32) 5 by decide +kernel) (show pin (0 : Int32) 6 by decide +kernel) dX8_init_50 (fun H locs hP hD hS => ?_)
  obtain ⟨f_17, ef_17⟩ : ∃ z : Nat → Nat → Int32, z = up2 f_13 (1 : Int32).toNatClampNeg (0 : Int32).toNatClampNeg (5 : Int32) := ⟨_, rfl⟩
  have hP : va_P D vwCl ([(a0, .inr (8, [.ref b1, .ref q8, .ref q17])), (q8, .inl (cA 5, 5, .inr (.inr (.inr (.inr (gro 5 r8)))))), (q17, .inl (cA 2, 5, .inr (.inl (fun _ => 0))))] ++ grw 5 r8 (cA 1) 6 f_17) H := by rw [ef_17]; exact hP
  have hD : va_D A ([(a0, .inr (8, [.ref b1, .ref q8, .ref q17])), (q8, .inl (cA 5, 5, .inr (.inr (.inr (.inr (gro 5 r8)))))), (q17, .inl (cA 2, 5, .inr (.inl (fun _ => 0))))] ++ grw 5 r8 (cA 1) 6 f_17) := by rw [ef_17]; exact hD
  refine lv_iinc (v := (1 : Int32)) (lv' := [(3, .int (1 : Int32)), (2, .int (1 : Int32)), (0, .ref a0), (1, .ref b1)]) hx hb dX8_init_51 hl (k := 0) rfl (by decide) (by decide) rfl (fun ls hl => ?_)
  refine lv_goto (tgt := 36) hx hb dX8_init_54 (by decide) ?_
  refine lv_iload_n hx hb dX8_init_36 rfl (lv_at hl 0 rfl) ?_
  refine lv_bipush (v := (6 : Int32)) hx hb dX8_init_37 (by decide) ?_
  refine lv_icmp_ge (tgt := 57) hx hb dX8_init_39 (by decide) (fun c_18 => ?_) (fun c_18 => ?_)
  · exact absurd c_18 (by decide)
  refine lv_aload_n hx hb dX8_init_42 rfl (lv_at hl 2 rfl) ?_
  refine va_get (D := D) (ci := 8) (v := .ref q8) (C := RX8) (T := TX8) (N := 3) hx hb hts hn_X8_init_X8 hown hK hP 0 rfl rfl 1 (by decide) (hts _ hw_X8_init_f11) (fun _ h9 => h9) rfl dX8_init_43 ?_
  refine lv_iload_n hx hb dX8_init_46 rfl (lv_at hl 1 rfl) ?_
  refine m_aald hx hb hK hP 1 rfl (show pin (1 : Int32) 5 by decide +kernel) dX8_init_47 ?_
  refine lv_iload_n hx hb dX8_init_48 rfl (lv_at hl 0 rfl) ?_
  refine lv_iconst (v := (5 : Int32)) hx hb dX8_init_49 (by decide) ?_
  refine m_rast (i := (1 : Int32)) hx hb hK hP hD hS rfl (show pin (1 : Int32) 5 by decide +kernel) (show pin (1 : Int32) 6 by decide +kernel) dX8_init_50 (fun H locs hP hD hS => ?_)
  obtain ⟨f_19, ef_19⟩ : ∃ z : Nat → Nat → Int32, z = up2 f_17 (1 : Int32).toNatClampNeg (1 : Int32).toNatClampNeg (5 : Int32) := ⟨_, rfl⟩
  have hP : va_P D vwCl ([(a0, .inr (8, [.ref b1, .ref q8, .ref q17])), (q8, .inl (cA 5, 5, .inr (.inr (.inr (.inr (gro 5 r8)))))), (q17, .inl (cA 2, 5, .inr (.inl (fun _ => 0))))] ++ grw 5 r8 (cA 1) 6 f_19) H := by rw [ef_19]; exact hP
  have hD : va_D A ([(a0, .inr (8, [.ref b1, .ref q8, .ref q17])), (q8, .inl (cA 5, 5, .inr (.inr (.inr (.inr (gro 5 r8)))))), (q17, .inl (cA 2, 5, .inr (.inl (fun _ => 0))))] ++ grw 5 r8 (cA 1) 6 f_19) := by rw [ef_19]; exact hD
  refine lv_iinc (v := (2 : Int32)) (lv' := [(3, .int (2 : Int32)), (2, .int (1 : Int32)), (0, .ref a0), (1, .ref b1)]) hx hb dX8_init_51 hl (k := 0) rfl (by decide) (by decide) rfl (fun ls hl => ?_)
  refine lv_goto (tgt := 36) hx hb dX8_init_54 (by decide) ?_
  refine lv_iload_n hx hb dX8_init_36 rfl (lv_at hl 0 rfl) ?_
  refine lv_bipush (v := (6 : Int32)) hx hb dX8_init_37 (by decide) ?_
  refine lv_icmp_ge (tgt := 57) hx hb dX8_init_39 (by decide) (fun c_20 => ?_) (fun c_20 => ?_)
  · exact absurd c_20 (by decide)
  refine lv_aload_n hx hb dX8_init_42 rfl (lv_at hl 2 rfl) ?_
  refine va_get (D := D) (ci := 8) (v := .ref q8) (C := RX8) (T := TX8) (N := 3) hx hb hts hn_X8_init_X8 hown hK hP 0 rfl rfl 1 (by decide) (hts _ hw_X8_init_f11) (fun _ h9 => h9) rfl dX8_init_43 ?_
  refine lv_iload_n hx hb dX8_init_46 rfl (lv_at hl 1 rfl) ?_
  refine m_aald hx hb hK hP 1 rfl (show pin (1 : Int32) 5 by decide +kernel) dX8_init_47 ?_
  refine lv_iload_n hx hb dX8_init_48 rfl (lv_at hl 0 rfl) ?_
  refine lv_iconst (v := (5 : Int32)) hx hb dX8_init_49 (by decide) ?_
  refine m_rast (i := (1 : Int32)) hx hb hK hP hD hS rfl (show pin (1 : Int32) 5 by decide +kernel) (show pin (2 : Int32) 6 by decide +kernel) dX8_init_50 (fun H locs hP hD hS => ?_)
  obtain ⟨f_21, ef_21⟩ : ∃ z : Nat → Nat → Int32, z = up2 f_19 (1 : Int32).toNatClampNeg (2 : Int32).toNatClampNeg (5 : Int32) := ⟨_, rfl⟩
  have hP : va_P D vwCl ([(a0, .inr (8, [.ref b1, .ref q8, .ref q17])), (q8, .inl (cA 5, 5, .inr (.inr (.inr (.inr (gro 5 r8)))))), (q17, .inl (cA 2, 5, .inr (.inl (fun _ => 0))))] ++ grw 5 r8 (cA 1) 6 f_21) H := by rw [ef_21]; exact hP
  have hD : va_D A ([(a0, .inr (8, [.ref b1, .ref q8, .ref q17])), (q8, .inl (cA 5, 5, .inr (.inr (.inr (.inr (gro 5 r8)))))), (q17, .inl (cA 2, 5, .inr (.inl (fun _ => 0))))] ++ grw 5 r8 (cA 1) 6 f_21) := by rw [ef_21]; exact hD
  refine lv_iinc (v := (3 : Int32)) (lv' := [(3, .int (3 : Int32)), (2, .int (1 : Int32)), (0, .ref a0), (1, .ref b1)]) hx hb dX8_init_51 hl (k := 0) rfl (by decide) (by decide) rfl (fun ls hl => ?_)
  refine lv_goto (tgt := 36) hx hb dX8_init_54 (by decide) ?_
  refine lv_iload_n hx hb dX8_init_36 rfl (lv_at hl 0 rfl) ?_
  refine lv_bipush (v := (6 : Int32)) hx hb dX8_init_37 (by decide) ?_
  refine lv_icmp_ge (tgt := 57) hx hb dX8_init_39 (by decide) (fun c_22 => ?_) (fun c_22 => ?_)
  · exact absurd c_22 (by decide)
  refine lv_aload_n hx hb dX8_init_42 rfl (lv_at hl 2 rfl) ?_
  refine va_get (D := D) (ci := 8) (v := .ref q8) (C := RX8) (T := TX8) (N := 3) hx hb hts hn_X8_init_X8 hown hK hP 0 rfl rfl 1 (by decide) (hts _ hw_X8_init_f11) (fun _ h9 => h9) rfl dX8_init_43 ?_
  refine lv_iload_n hx hb dX8_init_46 rfl (lv_at hl 1 rfl) ?_
  refine m_aald hx hb hK hP 1 rfl (show pin (1 : Int32) 5 by decide +kernel) dX8_init_47 ?_
  refine lv_iload_n hx hb dX8_init_48 rfl (lv_at hl 0 rfl) ?_
  refine lv_iconst (v := (5 : Int32)) hx hb dX8_init_49 (by decide) ?_
  refine m_rast (i := (1 : Int32)) hx hb hK hP hD hS rfl (show pin (1 : Int32) 5 by decide +kernel) (show pin (3 : Int32) 6 by decide +kernel) dX8_init_50 (fun H locs hP hD hS => ?_)
  obtain ⟨f_23, ef_23⟩ : ∃ z : Nat → Nat → Int32, z = up2 f_21 (1 : Int32).toNatClampNeg (3 : Int32).toNatClampNeg (5 : Int32) := ⟨_, rfl⟩
  have hP : va_P D vwCl ([(a0, .inr (8, [.ref b1, .ref q8, .ref q17])), (q8, .inl (cA 5, 5, .inr (.inr (.inr (.inr (gro 5 r8)))))), (q17, .inl (cA 2, 5, .inr (.inl (fun _ => 0))))] ++ grw 5 r8 (cA 1) 6 f_23) H := by rw [ef_23]; exact hP
  have hD : va_D A ([(a0, .inr (8, [.ref b1, .ref q8, .ref q17])), (q8, .inl (cA 5, 5, .inr (.inr (.inr (.inr (gro 5 r8)))))), (q17, .inl (cA 2, 5, .inr (.inl (fun _ => 0))))] ++ grw 5 r8 (cA 1) 6 f_23) := by rw [ef_23]; exact hD
  refine lv_iinc (v := (4 : Int32)) (lv' := [(3, .int (4 : Int32)), (2, .int (1 : Int32)), (0, .ref a0), (1, .ref b1)]) hx hb dX8_init_51 hl (k := 0) rfl (by decide) (by decide) rfl (fun ls hl => ?_)
  refine lv_goto (tgt := 36) hx hb dX8_init_54 (by decide) ?_
  refine lv_iload_n hx hb dX8_init_36 rfl (lv_at hl 0 rfl) ?_
  refine lv_bipush (v := (6 : Int32)) hx hb dX8_init_37 (by decide) ?_
  refine lv_icmp_ge (tgt := 57) hx hb dX8_init_39 (by decide) (fun c_24 => ?_) (fun c_24 => ?_)
  · exact absurd c_24 (by decide)
  refine lv_aload_n hx hb dX8_init_42 rfl (lv_at hl 2 rfl) ?_
  refine va_get (D := D) (ci := 8) (v := .ref q8) (C := RX8) (T := TX8) (N := 3) hx hb hts hn_X8_init_X8 hown hK hP 0 rfl rfl 1 (by decide) (hts _ hw_X8_init_f11) (fun _ h9 => h9) rfl dX8_init_43 ?_
  refine lv_iload_n hx hb dX8_init_46 rfl (lv_at hl 1 rfl) ?_
  refine m_aald hx hb hK hP 1 rfl (show pin (1 : Int32) 5 by decide +kernel) dX8_init_47 ?_
  refine lv_iload_n hx hb dX8_init_48 rfl (lv_at hl 0 rfl) ?_
  refine lv_iconst (v := (5 : Int32)) hx hb dX8_init_49 (by decide) ?_
  refine m_rast (i := (1 : Int32)) hx hb hK hP hD hS rfl (show pin (1 : Int32) 5 by decide +kernel) (show pin (4 : Int32) 6 by decide +kernel) dX8_init_50 (fun H locs hP hD hS => ?_)
  obtain ⟨f_25, ef_25⟩ : ∃ z : Nat → Nat → Int32, z = up2 f_23 (1 : Int32).toNatClampNeg (4 : Int32).toNatClampNeg (5 : Int32) := ⟨_, rfl⟩
  have hP : va_P D vwCl ([(a0, .inr (8, [.ref b1, .ref q8, .ref q17])), (q8, .inl (cA 5, 5, .inr (.inr (.inr (.inr (gro 5 r8)))))), (q17, .inl (cA 2, 5, .inr (.inl (fun _ => 0))))] ++ grw 5 r8 (cA 1) 6 f_25) H := by rw [ef_25]; exact hP
  have hD : va_D A ([(a0, .inr (8, [.ref b1, .ref q8, .ref q17])), (q8, .inl (cA 5, 5, .inr (.inr (.inr (.inr (gro 5 r8)))))), (q17, .inl (cA 2, 5, .inr (.inl (fun _ => 0))))] ++ grw 5 r8 (cA 1) 6 f_25) := by rw [ef_25]; exact hD
  refine lv_iinc (v := (5 : Int32)) (lv' := [(3, .int (5 : Int32)), (2, .int (1 : Int32)), (0, .ref a0), (1, .ref b1)]) hx hb dX8_init_51 hl (k := 0) rfl (by decide) (by decide) rfl (fun ls hl => ?_)
  refine lv_goto (tgt := 36) hx hb dX8_init_54 (by decide) ?_
  refine lv_iload_n hx hb dX8_init_36 rfl (lv_at hl 0 rfl) ?_
  refine lv_bipush (v := (6 : Int32)) hx hb dX8_init_37 (by decide) ?_
  refine lv_icmp_ge (tgt := 57) hx hb dX8_init_39 (by decide) (fun c_26 => ?_) (fun c_26 => ?_)
  · exact absurd c_26 (by decide)
  refine lv_aload_n hx hb dX8_init_42 rfl (lv_at hl 2 rfl) ?_
  refine va_get (D := D) (ci := 8) (v := .ref q8) (C := RX8) (T := TX8) (N := 3) hx hb hts hn_X8_init_X8 hown hK hP 0 rfl rfl 1 (by decide) (hts _ hw_X8_init_f11) (fun _ h9 => h9) rfl dX8_init_43 ?_
  refine lv_iload_n hx hb dX8_init_46 rfl (lv_at hl 1 rfl) ?_
  refine m_aald hx hb hK hP 1 rfl (show pin (1 : Int32) 5 by decide +kernel) dX8_init_47 ?_
  refine lv_iload_n hx hb dX8_init_48 rfl (lv_at hl 0 rfl) ?_
  refine lv_iconst (v := (5 : Int32)) hx hb dX8_init_49 (by decide) ?_
  refine m_rast (i := (1 : Int32)) hx hb hK hP hD hS rfl (show pin (1 : Int32) 5 by decide +kernel) (show pin (5 : Int32) 6 by decide +kernel) dX8_init_50 (fun H locs hP hD hS => ?_)
  obtain ⟨f_27, ef_27⟩ : ∃ z : Nat → Nat → Int32, z = up2 f_25 (1 : Int32).toNatClampNeg (5 : Int32).toNatClampNeg (5 : Int32) := ⟨_, rfl⟩
  have hP : va_P D vwCl ([(a0, .inr (8, [.ref b1, .ref q8, .ref q17])), (q8, .inl (cA 5, 5, .inr (.inr (.inr (.inr (gro 5 r8)))))), (q17, .inl (cA 2, 5, .inr (.inl (fun _ => 0))))] ++ grw 5 r8 (cA 1) 6 f_27) H := by rw [ef_27]; exact hP
  have hD : va_D A ([(a0, .inr (8, [.ref b1, .ref q8, .ref q17])), (q8, .inl (cA 5, 5, .inr (.inr (.inr (.inr (gro 5 r8)))))), (q17, .inl (cA 2, 5, .inr (.inl (fun _ => 0))))] ++ grw 5 r8 (cA 1) 6 f_27) := by rw [ef_27]; exact hD
  refine lv_iinc (v := (6 : Int32)) (lv' := [(3, .int (6 : Int32)), (2, .int (1 : Int32)), (0, .ref a0), (1, .ref b1)]) hx hb dX8_init_51 hl (k := 0) rfl (by decide) (by decide) rfl (fun ls hl => ?_)
  refine lv_goto (tgt := 36) hx hb dX8_init_54 (by decide) ?_
  refine lv_iload_n hx hb dX8_init_36 rfl (lv_at hl 0 rfl) ?_
  refine lv_bipush (v := (6 : Int32)) hx hb dX8_init_37 (by decide) ?_
  refine lv_icmp_ge (tgt := 57) hx hb dX8_init_39 (by decide) (fun c_28 => ?_) (fun c_28 => ?_)
  rotate_left
  · exact absurd (by decide) c_28
  refine lv_iinc (v := (2 : Int32)) (lv' := [(2, .int (2 : Int32)), (3, .int (6 : Int32)), (0, .ref a0), (1, .ref b1)]) hx hb dX8_init_57 hl (k := 1) rfl (by decide) (by decide) rfl (fun ls hl => ?_)
  refine lv_goto (tgt := 29) hx hb dX8_init_60 (by decide) ?_
  refine lv_iload_n hx hb dX8_init_29 rfl (lv_at hl 0 rfl) ?_
  refine lv_iconst (v := (5 : Int32)) hx hb dX8_init_30 (by decide) ?_
  refine lv_icmp_ge (tgt := 63) hx hb dX8_init_31 (by decide) (fun c_29 => ?_) (fun c_29 => ?_)
  · exact absurd c_29 (by decide)
  refine lv_iconst (v := (0 : Int32)) hx hb dX8_init_34 (by decide) ?_
  refine lv_istore_n (lv' := [(3, .int (0 : Int32)), (2, .int (2 : Int32)), (0, .ref a0), (1, .ref b1)]) hx hb dX8_init_35 rfl hl (by decide) rfl (fun ls hl => ?_)
  refine lv_iload_n hx hb dX8_init_36 rfl (lv_at hl 0 rfl) ?_
  refine lv_bipush (v := (6 : Int32)) hx hb dX8_init_37 (by decide) ?_
  refine lv_icmp_ge (tgt := 57) hx hb dX8_init_39 (by decide) (fun c_30 => ?_) (fun c_30 => ?_)
  · exact absurd c_30 (by decide)
  refine lv_aload_n hx hb dX8_init_42 rfl (lv_at hl 2 rfl) ?_
  refine va_get (D := D) (ci := 8) (v := .ref q8) (C := RX8) (T := TX8) (N := 3) hx hb hts hn_X8_init_X8 hown hK hP 0 rfl rfl 1 (by decide) (hts _ hw_X8_init_f11) (fun _ h9 => h9) rfl dX8_init_43 ?_
  refine lv_iload_n hx hb dX8_init_46 rfl (lv_at hl 1 rfl) ?_
  refine m_aald hx hb hK hP 1 rfl (show pin (2 : Int32) 5 by decide +kernel) dX8_init_47 ?_
  refine lv_iload_n hx hb dX8_init_48 rfl (lv_at hl 0 rfl) ?_
  refine lv_iconst (v := (5 : Int32)) hx hb dX8_init_49 (by decide) ?_
  refine m_rast (i := (2 : Int32)) hx hb hK hP hD hS rfl (show pin (2 : Int32) 5 by decide +kernel) (show pin (0 : Int32) 6 by decide +kernel) dX8_init_50 (fun H locs hP hD hS => ?_)
  obtain ⟨f_31, ef_31⟩ : ∃ z : Nat → Nat → Int32, z = up2 f_27 (2 : Int32).toNatClampNeg (0 : Int32).toNatClampNeg (5 : Int32) := ⟨_, rfl⟩
  have hP : va_P D vwCl ([(a0, .inr (8, [.ref b1, .ref q8, .ref q17])), (q8, .inl (cA 5, 5, .inr (.inr (.inr (.inr (gro 5 r8)))))), (q17, .inl (cA 2, 5, .inr (.inl (fun _ => 0))))] ++ grw 5 r8 (cA 1) 6 f_31) H := by rw [ef_31]; exact hP
  have hD : va_D A ([(a0, .inr (8, [.ref b1, .ref q8, .ref q17])), (q8, .inl (cA 5, 5, .inr (.inr (.inr (.inr (gro 5 r8)))))), (q17, .inl (cA 2, 5, .inr (.inl (fun _ => 0))))] ++ grw 5 r8 (cA 1) 6 f_31) := by rw [ef_31]; exact hD
  refine lv_iinc (v := (1 : Int32)) (lv' := [(3, .int (1 : Int32)), (2, .int (2 : Int32)), (0, .ref a0), (1, .ref b1)]) hx hb dX8_init_51 hl (k := 0) rfl (by decide) (by decide) rfl (fun ls hl => ?_)
  refine lv_goto (tgt := 36) hx hb dX8_init_54 (by decide) ?_
  refine lv_iload_n hx hb dX8_init_36 rfl (lv_at hl 0 rfl) ?_
  refine lv_bipush (v := (6 : Int32)) hx hb dX8_init_37 (by decide) ?_
  refine lv_icmp_ge (tgt := 57) hx hb dX8_init_39 (by decide) (fun c_32 => ?_) (fun c_32 => ?_)
  · exact absurd c_32 (by decide)
  refine lv_aload_n hx hb dX8_init_42 rfl (lv_at hl 2 rfl) ?_
  refine va_get (D := D) (ci := 8) (v := .ref q8) (C := RX8) (T := TX8) (N := 3) hx hb hts hn_X8_init_X8 hown hK hP 0 rfl rfl 1 (by decide) (hts _ hw_X8_init_f11) (fun _ h9 => h9) rfl dX8_init_43 ?_
  refine lv_iload_n hx hb dX8_init_46 rfl (lv_at hl 1 rfl) ?_
  refine m_aald hx hb hK hP 1 rfl (show pin (2 : Int32) 5 by decide +kernel) dX8_init_47 ?_
  refine lv_iload_n hx hb dX8_init_48 rfl (lv_at hl 0 rfl) ?_
  refine lv_iconst (v := (5 : Int32)) hx hb dX8_init_49 (by decide) ?_
  refine m_rast (i := (2 : Int32)) hx hb hK hP hD hS rfl (show pin (2 : Int32) 5 by decide +kernel) (show pin (1 : Int32) 6 by decide +kernel) dX8_init_50 (fun H locs hP hD hS => ?_)
  obtain ⟨f_33, ef_33⟩ : ∃ z : Nat → Nat → Int32, z = up2 f_31 (2 : Int32).toNatClampNeg (1 : Int32).toNatClampNeg (5 : Int32) := ⟨_, rfl⟩
  have hP : va_P D vwCl ([(a0, .inr (8, [.ref b1, .ref q8, .ref q17])), (q8, .inl (cA 5, 5, .inr (.inr (.inr (.inr (gro 5 r8)))))), (q17, .inl (cA 2, 5, .inr (.inl (fun _ => 0))))] ++ grw 5 r8 (cA 1) 6 f_33) H := by rw [ef_33]; exact hP
  have hD : va_D A ([(a0, .inr (8, [.ref b1, .ref q8, .ref q17])), (q8, .inl (cA 5, 5, .inr (.inr (.inr (.inr (gro 5 r8)))))), (q17, .inl (cA 2, 5, .inr (.inl (fun _ => 0))))] ++ grw 5 r8 (cA 1) 6 f_33) := by rw [ef_33]; exact hD
  refine lv_iinc (v := (2 : Int32)) (lv' := [(3, .int (2 : Int32)), (2, .int (2 : Int32)), (0, .ref a0), (1, .ref b1)]) hx hb dX8_init_51 hl (k := 0) rfl (by decide) (by decide) rfl (fun ls hl => ?_)
  refine lv_goto (tgt := 36) hx hb dX8_init_54 (by decide) ?_
  refine lv_iload_n hx hb dX8_init_36 rfl (lv_at hl 0 rfl) ?_
  refine lv_bipush (v := (6 : Int32)) hx hb dX8_init_37 (by decide) ?_
  refine lv_icmp_ge (tgt := 57) hx hb dX8_init_39 (by decide) (fun c_34 => ?_) (fun c_34 => ?_)
  · exact absurd c_34 (by decide)
  refine lv_aload_n hx hb dX8_init_42 rfl (lv_at hl 2 rfl) ?_
  refine va_get (D := D) (ci := 8) (v := .ref q8) (C := RX8) (T := TX8) (N := 3) hx hb hts hn_X8_init_X8 hown hK hP 0 rfl rfl 1 (by decide) (hts _ hw_X8_init_f11) (fun _ h9 => h9) rfl dX8_init_43 ?_
  refine lv_iload_n hx hb dX8_init_46 rfl (lv_at hl 1 rfl) ?_
  refine m_aald hx hb hK hP 1 rfl (show pin (2 : Int32) 5 by decide +kernel) dX8_init_47 ?_
  refine lv_iload_n hx hb dX8_init_48 rfl (lv_at hl 0 rfl) ?_
  refine lv_iconst (v := (5 : Int32)) hx hb dX8_init_49 (by decide) ?_
  refine m_rast (i := (2 : Int32)) hx hb hK hP hD hS rfl (show pin (2 : Int32) 5 by decide +kernel) (show pin (2 : Int32) 6 by decide +kernel) dX8_init_50 (fun H locs hP hD hS => ?_)
  obtain ⟨f_35, ef_35⟩ : ∃ z : Nat → Nat → Int32, z = up2 f_33 (2 : Int32).toNatClampNeg (2 : Int32).toNatClampNeg (5 : Int32) := ⟨_, rfl⟩
  have hP : va_P D vwCl ([(a0, .inr (8, [.ref b1, .ref q8, .ref q17])), (q8, .inl (cA 5, 5, .inr (.inr (.inr (.inr (gro 5 r8)))))), (q17, .inl (cA 2, 5, .inr (.inl (fun _ => 0))))] ++ grw 5 r8 (cA 1) 6 f_35) H := by rw [ef_35]; exact hP
  have hD : va_D A ([(a0, .inr (8, [.ref b1, .ref q8, .ref q17])), (q8, .inl (cA 5, 5, .inr (.inr (.inr (.inr (gro 5 r8)))))), (q17, .inl (cA 2, 5, .inr (.inl (fun _ => 0))))] ++ grw 5 r8 (cA 1) 6 f_35) := by rw [ef_35]; exact hD
  refine lv_iinc (v := (3 : Int32)) (lv' := [(3, .int (3 : Int32)), (2, .int (2 : Int32)), (0, .ref a0), (1, .ref b1)]) hx hb dX8_init_51 hl (k := 0) rfl (by decide) (by decide) rfl (fun ls hl => ?_)
  refine lv_goto (tgt := 36) hx hb dX8_init_54 (by decide) ?_
  refine lv_iload_n hx hb dX8_init_36 rfl (lv_at hl 0 rfl) ?_
  refine lv_bipush (v := (6 : Int32)) hx hb dX8_init_37 (by decide) ?_
  refine lv_icmp_ge (tgt := 57) hx hb dX8_init_39 (by decide) (fun c_36 => ?_) (fun c_36 => ?_)
  · exact absurd c_36 (by decide)
  refine lv_aload_n hx hb dX8_init_42 rfl (lv_at hl 2 rfl) ?_
  refine va_get (D := D) (ci := 8) (v := .ref q8) (C := RX8) (T := TX8) (N := 3) hx hb hts hn_X8_init_X8 hown hK hP 0 rfl rfl 1 (by decide) (hts _ hw_X8_init_f11) (fun _ h9 => h9) rfl dX8_init_43 ?_
  refine lv_iload_n hx hb dX8_init_46 rfl (lv_at hl 1 rfl) ?_
  refine m_aald hx hb hK hP 1 rfl (show pin (2 : Int32) 5 by decide +kernel) dX8_init_47 ?_
  refine lv_iload_n hx hb dX8_init_48 rfl (lv_at hl 0 rfl) ?_
  refine lv_iconst (v := (5 : Int32)) hx hb dX8_init_49 (by decide) ?_
  refine m_rast (i := (2 : Int32)) hx hb hK hP hD hS rfl (show pin (2 : Int32) 5 by decide +kernel) (show pin (3 : Int32) 6 by decide +kernel) dX8_init_50 (fun H locs hP hD hS => ?_)
  obtain ⟨f_37, ef_37⟩ : ∃ z : Nat → Nat → Int32, z = up2 f_35 (2 : Int32).toNatClampNeg (3 : Int32).toNatClampNeg (5 : Int32) := ⟨_, rfl⟩
  have hP : va_P D vwCl ([(a0, .inr (8, [.ref b1, .ref q8, .ref q17])), (q8, .inl (cA 5, 5, .inr (.inr (.inr (.inr (gro 5 r8)))))), (q17, .inl (cA 2, 5, .inr (.inl (fun _ => 0))))] ++ grw 5 r8 (cA 1) 6 f_37) H := by rw [ef_37]; exact hP
  have hD : va_D A ([(a0, .inr (8, [.ref b1, .ref q8, .ref q17])), (q8, .inl (cA 5, 5, .inr (.inr (.inr (.inr (gro 5 r8)))))), (q17, .inl (cA 2, 5, .inr (.inl (fun _ => 0))))] ++ grw 5 r8 (cA 1) 6 f_37) := by rw [ef_37]; exact hD
  refine lv_iinc (v := (4 : Int32)) (lv' := [(3, .int (4 : Int32)), (2, .int (2 : Int32)), (0, .ref a0), (1, .ref b1)]) hx hb dX8_init_51 hl (k := 0) rfl (by decide) (by decide) rfl (fun ls hl => ?_)
  refine lv_goto (tgt := 36) hx hb dX8_init_54 (by decide) ?_
  refine lv_iload_n hx hb dX8_init_36 rfl (lv_at hl 0 rfl) ?_
  refine lv_bipush (v := (6 : Int32)) hx hb dX8_init_37 (by decide) ?_
  refine lv_icmp_ge (tgt := 57) hx hb dX8_init_39 (by decide) (fun c_38 => ?_) (fun c_38 => ?_)
  · exact absurd c_38 (by decide)
  refine lv_aload_n hx hb dX8_init_42 rfl (lv_at hl 2 rfl) ?_
  refine va_get (D := D) (ci := 8) (v := .ref q8) (C := RX8) (T := TX8) (N := 3) hx hb hts hn_X8_init_X8 hown hK hP 0 rfl rfl 1 (by decide) (hts _ hw_X8_init_f11) (fun _ h9 => h9) rfl dX8_init_43 ?_
  refine lv_iload_n hx hb dX8_init_46 rfl (lv_at hl 1 rfl) ?_
  refine m_aald hx hb hK hP 1 rfl (show pin (2 : Int32) 5 by decide +kernel) dX8_init_47 ?_
  refine lv_iload_n hx hb dX8_init_48 rfl (lv_at hl 0 rfl) ?_
  refine lv_iconst (v := (5 : Int32)) hx hb dX8_init_49 (by decide) ?_
  refine m_rast (i := (2 : Int32)) hx hb hK hP hD hS rfl (show pin (2 : Int32) 5 by decide +kernel) (show pin (4 : Int32) 6 by decide +kernel) dX8_init_50 (fun H locs hP hD hS => ?_)
  obtain ⟨f_39, ef_39⟩ : ∃ z : Nat → Nat → Int32, z = up2 f_37 (2 : Int32).toNatClampNeg (4 : Int32).toNatClampNeg (5 : Int32) := ⟨_, rfl⟩
  have hP : va_P D vwCl ([(a0, .inr (8, [.ref b1, .ref q8, .ref q17])), (q8, .inl (cA 5, 5, .inr (.inr (.inr (.inr (gro 5 r8)))))), (q17, .inl (cA 2, 5, .inr (.inl (fun _ => 0))))] ++ grw 5 r8 (cA 1) 6 f_39) H := by rw [ef_39]; exact hP
  have hD : va_D A ([(a0, .inr (8, [.ref b1, .ref q8, .ref q17])), (q8, .inl (cA 5, 5, .inr (.inr (.inr (.inr (gro 5 r8)))))), (q17, .inl (cA 2, 5, .inr (.inl (fun _ => 0))))] ++ grw 5 r8 (cA 1) 6 f_39) := by rw [ef_39]; exact hD
  refine lv_iinc (v := (5 : Int32)) (lv' := [(3, .int (5 : Int32)), (2, .int (2 : Int32)), (0, .ref a0), (1, .ref b1)]) hx hb dX8_init_51 hl (k := 0) rfl (by decide) (by decide) rfl (fun ls hl => ?_)
  refine lv_goto (tgt := 36) hx hb dX8_init_54 (by decide) ?_
  refine lv_iload_n hx hb dX8_init_36 rfl (lv_at hl 0 rfl) ?_
  refine lv_bipush (v := (6 : Int32)) hx hb dX8_init_37 (by decide) ?_
  refine lv_icmp_ge (tgt := 57) hx hb dX8_init_39 (by decide) (fun c_40 => ?_) (fun c_40 => ?_)
  · exact absurd c_40 (by decide)
  refine lv_aload_n hx hb dX8_init_42 rfl (lv_at hl 2 rfl) ?_
  refine va_get (D := D) (ci := 8) (v := .ref q8) (C := RX8) (T := TX8) (N := 3) hx hb hts hn_X8_init_X8 hown hK hP 0 rfl rfl 1 (by decide) (hts _ hw_X8_init_f11) (fun _ h9 => h9) rfl dX8_init_43 ?_
  refine lv_iload_n hx hb dX8_init_46 rfl (lv_at hl 1 rfl) ?_
  refine m_aald hx hb hK hP 1 rfl (show pin (2 : Int32) 5 by decide +kernel) dX8_init_47 ?_
  refine lv_iload_n hx hb dX8_init_48 rfl (lv_at hl 0 rfl) ?_
  refine lv_iconst (v := (5 : Int32)) hx hb dX8_init_49 (by decide) ?_
  refine m_rast (i := (2 : Int32)) hx hb hK hP hD hS rfl (show pin (2 : Int32) 5 by decide +kernel) (show pin (5 : Int32) 6 by decide +kernel) dX8_init_50 (fun H locs hP hD hS => ?_)
  obtain ⟨f_41, ef_41⟩ : ∃ z : Nat → Nat → Int32, z = up2 f_39 (2 : Int32).toNatClampNeg (5 : Int32).toNatClampNeg (5 : Int32) := ⟨_, rfl⟩
  have hP : va_P D vwCl ([(a0, .inr (8, [.ref b1, .ref q8, .ref q17])), (q8, .inl (cA 5, 5, .inr (.inr (.inr (.inr (gro 5 r8)))))), (q17, .inl (cA 2, 5, .inr (.inl (fun _ => 0))))] ++ grw 5 r8 (cA 1) 6 f_41) H := by rw [ef_41]; exact hP
  have hD : va_D A ([(a0, .inr (8, [.ref b1, .ref q8, .ref q17])), (q8, .inl (cA 5, 5, .inr (.inr (.inr (.inr (gro 5 r8)))))), (q17, .inl (cA 2, 5, .inr (.inl (fun _ => 0))))] ++ grw 5 r8 (cA 1) 6 f_41) := by rw [ef_41]; exact hD
  refine lv_iinc (v := (6 : Int32)) (lv' := [(3, .int (6 : Int32)), (2, .int (2 : Int32)), (0, .ref a0), (1, .ref b1)]) hx hb dX8_init_51 hl (k := 0) rfl (by decide) (by decide) rfl (fun ls hl => ?_)
  refine lv_goto (tgt := 36) hx hb dX8_init_54 (by decide) ?_
  refine lv_iload_n hx hb dX8_init_36 rfl (lv_at hl 0 rfl) ?_
  refine lv_bipush (v := (6 : Int32)) hx hb dX8_init_37 (by decide) ?_
  refine lv_icmp_ge (tgt := 57) hx hb dX8_init_39 (by decide) (fun c_42 => ?_) (fun c_42 => ?_)
  rotate_left
  · exact absurd (by decide) c_42
  refine lv_iinc (v := (3 : Int32)) (lv' := [(2, .int (3 : Int32)), (3, .int (6 : Int32)), (0, .ref a0), (1, .ref b1)]) hx hb dX8_init_57 hl (k := 1) rfl (by decide) (by decide) rfl (fun ls hl => ?_)
  refine lv_goto (tgt := 29) hx hb dX8_init_60 (by decide) ?_
  refine lv_iload_n hx hb dX8_init_29 rfl (lv_at hl 0 rfl) ?_
  refine lv_iconst (v := (5 : Int32)) hx hb dX8_init_30 (by decide) ?_
  refine lv_icmp_ge (tgt := 63) hx hb dX8_init_31 (by decide) (fun c_43 => ?_) (fun c_43 => ?_)
  · exact absurd c_43 (by decide)
  refine lv_iconst (v := (0 : Int32)) hx hb dX8_init_34 (by decide) ?_
  refine lv_istore_n (lv' := [(3, .int (0 : Int32)), (2, .int (3 : Int32)), (0, .ref a0), (1, .ref b1)]) hx hb dX8_init_35 rfl hl (by decide) rfl (fun ls hl => ?_)
  refine lv_iload_n hx hb dX8_init_36 rfl (lv_at hl 0 rfl) ?_
  refine lv_bipush (v := (6 : Int32)) hx hb dX8_init_37 (by decide) ?_
  refine lv_icmp_ge (tgt := 57) hx hb dX8_init_39 (by decide) (fun c_44 => ?_) (fun c_44 => ?_)
  · exact absurd c_44 (by decide)
  refine lv_aload_n hx hb dX8_init_42 rfl (lv_at hl 2 rfl) ?_
  refine va_get (D := D) (ci := 8) (v := .ref q8) (C := RX8) (T := TX8) (N := 3) hx hb hts hn_X8_init_X8 hown hK hP 0 rfl rfl 1 (by decide) (hts _ hw_X8_init_f11) (fun _ h9 => h9) rfl dX8_init_43 ?_
  refine lv_iload_n hx hb dX8_init_46 rfl (lv_at hl 1 rfl) ?_
  refine m_aald hx hb hK hP 1 rfl (show pin (3 : Int32) 5 by decide +kernel) dX8_init_47 ?_
  refine lv_iload_n hx hb dX8_init_48 rfl (lv_at hl 0 rfl) ?_
  refine lv_iconst (v := (5 : Int32)) hx hb dX8_init_49 (by decide) ?_
  refine m_rast (i := (3 : Int32)) hx hb hK hP hD hS rfl (show pin (3 : Int32) 5 by decide +kernel) (show pin (0 : Int32) 6 by decide +kernel) dX8_init_50 (fun H locs hP hD hS => ?_)
  obtain ⟨f_45, ef_45⟩ : ∃ z : Nat → Nat → Int32, z = up2 f_41 (3 : Int32).toNatClampNeg (0 : Int32).toNatClampNeg (5 : Int32) := ⟨_, rfl⟩
  have hP : va_P D vwCl ([(a0, .inr (8, [.ref b1, .ref q8, .ref q17])), (q8, .inl (cA 5, 5, .inr (.inr (.inr (.inr (gro 5 r8)))))), (q17, .inl (cA 2, 5, .inr (.inl (fun _ => 0))))] ++ grw 5 r8 (cA 1) 6 f_45) H := by rw [ef_45]; exact hP
  have hD : va_D A ([(a0, .inr (8, [.ref b1, .ref q8, .ref q17])), (q8, .inl (cA 5, 5, .inr (.inr (.inr (.inr (gro 5 r8)))))), (q17, .inl (cA 2, 5, .inr (.inl (fun _ => 0))))] ++ grw 5 r8 (cA 1) 6 f_45) := by rw [ef_45]; exact hD
  refine lv_iinc (v := (1 : Int32)) (lv' := [(3, .int (1 : Int32)), (2, .int (3 : Int32)), (0, .ref a0), (1, .ref b1)]) hx hb dX8_init_51 hl (k := 0) rfl (by decide) (by decide) rfl (fun ls hl => ?_)
  refine lv_goto (tgt := 36) hx hb dX8_init_54 (by decide) ?_
  refine lv_iload_n hx hb dX8_init_36 rfl (lv_at hl 0 rfl) ?_
  refine lv_bipush (v := (6 : Int32)) hx hb dX8_init_37 (by decide) ?_
  refine lv_icmp_ge (tgt := 57) hx hb dX8_init_39 (by decide) (fun c_46 => ?_) (fun c_46 => ?_)
  · exact absurd c_46 (by decide)
  refine lv_aload_n hx hb dX8_init_42 rfl (lv_at hl 2 rfl) ?_
  refine va_get (D := D) (ci := 8) (v := .ref q8) (C := RX8) (T := TX8) (N := 3) hx hb hts hn_X8_init_X8 hown hK hP 0 rfl rfl 1 (by decide) (hts _ hw_X8_init_f11) (fun _ h9 => h9) rfl dX8_init_43 ?_
  refine lv_iload_n hx hb dX8_init_46 rfl (lv_at hl 1 rfl) ?_
  refine m_aald hx hb hK hP 1 rfl (show pin (3 : Int32) 5 by decide +kernel) dX8_init_47 ?_
  refine lv_iload_n hx hb dX8_init_48 rfl (lv_at hl 0 rfl) ?_
  refine lv_iconst (v := (5 : Int32)) hx hb dX8_init_49 (by decide) ?_
  refine m_rast (i := (3 : Int32)) hx hb hK hP hD hS rfl (show pin (3 : Int32) 5 by decide +kernel) (show pin (1 : Int32) 6 by decide +kernel) dX8_init_50 (fun H locs hP hD hS => ?_)
  obtain ⟨f_47, ef_47⟩ : ∃ z : Nat → Nat → Int32, z = up2 f_45 (3 : Int32).toNatClampNeg (1 : Int32).toNatClampNeg (5 : Int32) := ⟨_, rfl⟩
  have hP : va_P D vwCl ([(a0, .inr (8, [.ref b1, .ref q8, .ref q17])), (q8, .inl (cA 5, 5, .inr (.inr (.inr (.inr (gro 5 r8)))))), (q17, .inl (cA 2, 5, .inr (.inl (fun _ => 0))))] ++ grw 5 r8 (cA 1) 6 f_47) H := by rw [ef_47]; exact hP
  have hD : va_D A ([(a0, .inr (8, [.ref b1, .ref q8, .ref q17])), (q8, .inl (cA 5, 5, .inr (.inr (.inr (.inr (gro 5 r8)))))), (q17, .inl (cA 2, 5, .inr (.inl (fun _ => 0))))] ++ grw 5 r8 (cA 1) 6 f_47) := by rw [ef_47]; exact hD
  refine lv_iinc (v := (2 : Int32)) (lv' := [(3, .int (2 : Int32)), (2, .int (3 : Int32)), (0, .ref a0), (1, .ref b1)]) hx hb dX8_init_51 hl (k := 0) rfl (by decide) (by decide) rfl (fun ls hl => ?_)
  refine lv_goto (tgt := 36) hx hb dX8_init_54 (by decide) ?_
  refine lv_iload_n hx hb dX8_init_36 rfl (lv_at hl 0 rfl) ?_
  refine lv_bipush (v := (6 : Int32)) hx hb dX8_init_37 (by decide) ?_
  refine lv_icmp_ge (tgt := 57) hx hb dX8_init_39 (by decide) (fun c_48 => ?_) (fun c_48 => ?_)
  · exact absurd c_48 (by decide)
  refine lv_aload_n hx hb dX8_init_42 rfl (lv_at hl 2 rfl) ?_
  refine va_get (D := D) (ci := 8) (v := .ref q8) (C := RX8) (T := TX8) (N := 3) hx hb hts hn_X8_init_X8 hown hK hP 0 rfl rfl 1 (by decide) (hts _ hw_X8_init_f11) (fun _ h9 => h9) rfl dX8_init_43 ?_
  refine lv_iload_n hx hb dX8_init_46 rfl (lv_at hl 1 rfl) ?_
  refine m_aald hx hb hK hP 1 rfl (show pin (3 : Int32) 5 by decide +kernel) dX8_init_47 ?_
  refine lv_iload_n hx hb dX8_init_48 rfl (lv_at hl 0 rfl) ?_
  refine lv_iconst (v := (5 : Int32)) hx hb dX8_init_49 (by decide) ?_
  refine m_rast (i := (3 : Int32)) hx hb hK hP hD hS rfl (show pin (3 : Int32) 5 by decide +kernel) (show pin (2 : Int32) 6 by decide +kernel) dX8_init_50 (fun H locs hP hD hS => ?_)
  obtain ⟨f_49, ef_49⟩ : ∃ z : Nat → Nat → Int32, z = up2 f_47 (3 : Int32).toNatClampNeg (2 : Int32).toNatClampNeg (5 : Int32) := ⟨_, rfl⟩
  have hP : va_P D vwCl ([(a0, .inr (8, [.ref b1, .ref q8, .ref q17])), (q8, .inl (cA 5, 5, .inr (.inr (.inr (.inr (gro 5 r8)))))), (q17, .inl (cA 2, 5, .inr (.inl (fun _ => 0))))] ++ grw 5 r8 (cA 1) 6 f_49) H := by rw [ef_49]; exact hP
  have hD : va_D A ([(a0, .inr (8, [.ref b1, .ref q8, .ref q17])), (q8, .inl (cA 5, 5, .inr (.inr (.inr (.inr (gro 5 r8)))))), (q17, .inl (cA 2, 5, .inr (.inl (fun _ => 0))))] ++ grw 5 r8 (cA 1) 6 f_49) := by rw [ef_49]; exact hD
  refine lv_iinc (v := (3 : Int32)) (lv' := [(3, .int (3 : Int32)), (2, .int (3 : Int32)), (0, .ref a0), (1, .ref b1)]) hx hb dX8_init_51 hl (k := 0) rfl (by decide) (by decide) rfl (fun ls hl => ?_)
  refine lv_goto (tgt := 36) hx hb dX8_init_54 (by decide) ?_
  refine lv_iload_n hx hb dX8_init_36 rfl (lv_at hl 0 rfl) ?_
  refine lv_bipush (v := (6 : Int32)) hx hb dX8_init_37 (by decide) ?_
  refine lv_icmp_ge (tgt := 57) hx hb dX8_init_39 (by decide) (fun c_50 => ?_) (fun c_50 => ?_)
  · exact absurd c_50 (by decide)
  refine lv_aload_n hx hb dX8_init_42 rfl (lv_at hl 2 rfl) ?_
  refine va_get (D := D) (ci := 8) (v := .ref q8) (C := RX8) (T := TX8) (N := 3) hx hb hts hn_X8_init_X8 hown hK hP 0 rfl rfl 1 (by decide) (hts _ hw_X8_init_f11) (fun _ h9 => h9) rfl dX8_init_43 ?_
  refine lv_iload_n hx hb dX8_init_46 rfl (lv_at hl 1 rfl) ?_
  refine m_aald hx hb hK hP 1 rfl (show pin (3 : Int32) 5 by decide +kernel) dX8_init_47 ?_
  refine lv_iload_n hx hb dX8_init_48 rfl (lv_at hl 0 rfl) ?_
  refine lv_iconst (v := (5 : Int32)) hx hb dX8_init_49 (by decide) ?_
  refine m_rast (i := (3 : Int32)) hx hb hK hP hD hS rfl (show pin (3 : Int32) 5 by decide +kernel) (show pin (3 : Int32) 6 by decide +kernel) dX8_init_50 (fun H locs hP hD hS => ?_)
  obtain ⟨f_51, ef_51⟩ : ∃ z : Nat → Nat → Int32, z = up2 f_49 (3 : Int32).toNatClampNeg (3 : Int32).toNatClampNeg (5 : Int32) := ⟨_, rfl⟩
  have hP : va_P D vwCl ([(a0, .inr (8, [.ref b1, .ref q8, .ref q17])), (q8, .inl (cA 5, 5, .inr (.inr (.inr (.inr (gro 5 r8)))))), (q17, .inl (cA 2, 5, .inr (.inl (fun _ => 0))))] ++ grw 5 r8 (cA 1) 6 f_51) H := by rw [ef_51]; exact hP
  have hD : va_D A ([(a0, .inr (8, [.ref b1, .ref q8, .ref q17])), (q8, .inl (cA 5, 5, .inr (.inr (.inr (.inr (gro 5 r8)))))), (q17, .inl (cA 2, 5, .inr (.inl (fun _ => 0))))] ++ grw 5 r8 (cA 1) 6 f_51) := by rw [ef_51]; exact hD
  refine lv_iinc (v := (4 : Int32)) (lv' := [(3, .int (4 : Int32)), (2, .int (3 : Int32)), (0, .ref a0), (1, .ref b1)]) hx hb dX8_init_51 hl (k := 0) rfl (by decide) (by decide) rfl (fun ls hl => ?_)
  refine lv_goto (tgt := 36) hx hb dX8_init_54 (by decide) ?_
  refine lv_iload_n hx hb dX8_init_36 rfl (lv_at hl 0 rfl) ?_
  refine lv_bipush (v := (6 : Int32)) hx hb dX8_init_37 (by decide) ?_
  refine lv_icmp_ge (tgt := 57) hx hb dX8_init_39 (by decide) (fun c_52 => ?_) (fun c_52 => ?_)
  · exact absurd c_52 (by decide)
  refine lv_aload_n hx hb dX8_init_42 rfl (lv_at hl 2 rfl) ?_
  refine va_get (D := D) (ci := 8) (v := .ref q8) (C := RX8) (T := TX8) (N := 3) hx hb hts hn_X8_init_X8 hown hK hP 0 rfl rfl 1 (by decide) (hts _ hw_X8_init_f11) (fun _ h9 => h9) rfl dX8_init_43 ?_
  refine lv_iload_n hx hb dX8_init_46 rfl (lv_at hl 1 rfl) ?_
  refine m_aald hx hb hK hP 1 rfl (show pin (3 : Int32) 5 by decide +kernel) dX8_init_47 ?_
  refine lv_iload_n hx hb dX8_init_48 rfl (lv_at hl 0 rfl) ?_
  refine lv_iconst (v := (5 : Int32)) hx hb dX8_init_49 (by decide) ?_
  refine m_rast (i := (3 : Int32)) hx hb hK hP hD hS rfl (show pin (3 : Int32) 5 by decide +kernel) (show pin (4 : Int32) 6 by decide +kernel) dX8_init_50 (fun H locs hP hD hS => ?_)
  obtain ⟨f_53, ef_53⟩ : ∃ z : Nat → Nat → Int32, z = up2 f_51 (3 : Int32).toNatClampNeg (4 : Int32).toNatClampNeg (5 : Int32) := ⟨_, rfl⟩
  have hP : va_P D vwCl ([(a0, .inr (8, [.ref b1, .ref q8, .ref q17])), (q8, .inl (cA 5, 5, .inr (.inr (.inr (.inr (gro 5 r8)))))), (q17, .inl (cA 2, 5, .inr (.inl (fun _ => 0))))] ++ grw 5 r8 (cA 1) 6 f_53) H := by rw [ef_53]; exact hP
  have hD : va_D A ([(a0, .inr (8, [.ref b1, .ref q8, .ref q17])), (q8, .inl (cA 5, 5, .inr (.inr (.inr (.inr (gro 5 r8)))))), (q17, .inl (cA 2, 5, .inr (.inl (fun _ => 0))))] ++ grw 5 r8 (cA 1) 6 f_53) := by rw [ef_53]; exact hD
  refine lv_iinc (v := (5 : Int32)) (lv' := [(3, .int (5 : Int32)), (2, .int (3 : Int32)), (0, .ref a0), (1, .ref b1)]) hx hb dX8_init_51 hl (k := 0) rfl (by decide) (by decide) rfl (fun ls hl => ?_)
  refine lv_goto (tgt := 36) hx hb dX8_init_54 (by decide) ?_
  refine lv_iload_n hx hb dX8_init_36 rfl (lv_at hl 0 rfl) ?_
  refine lv_bipush (v := (6 : Int32)) hx hb dX8_init_37 (by decide) ?_
  refine lv_icmp_ge (tgt := 57) hx hb dX8_init_39 (by decide) (fun c_54 => ?_) (fun c_54 => ?_)
  · exact absurd c_54 (by decide)
  refine lv_aload_n hx hb dX8_init_42 rfl (lv_at hl 2 rfl) ?_
  refine va_get (D := D) (ci := 8) (v := .ref q8) (C := RX8) (T := TX8) (N := 3) hx hb hts hn_X8_init_X8 hown hK hP 0 rfl rfl 1 (by decide) (hts _ hw_X8_init_f11) (fun _ h9 => h9) rfl dX8_init_43 ?_
  refine lv_iload_n hx hb dX8_init_46 rfl (lv_at hl 1 rfl) ?_
  refine m_aald hx hb hK hP 1 rfl (show pin (3 : Int32) 5 by decide +kernel) dX8_init_47 ?_
  refine lv_iload_n hx hb dX8_init_48 rfl (lv_at hl 0 rfl) ?_
  refine lv_iconst (v := (5 : Int32)) hx hb dX8_init_49 (by decide) ?_
  refine m_rast (i := (3 : Int32)) hx hb hK hP hD hS rfl (show pin (3 : Int32) 5 by decide +kernel) (show pin (5 : Int32) 6 by decide +kernel) dX8_init_50 (fun H locs hP hD hS => ?_)
  obtain ⟨f_55, ef_55⟩ : ∃ z : Nat → Nat → Int32, z = up2 f_53 (3 : Int32).toNatClampNeg (5 : Int32).toNatClampNeg (5 : Int32) := ⟨_, rfl⟩
  have hP : va_P D vwCl ([(a0, .inr (8, [.ref b1, .ref q8, .ref q17])), (q8, .inl (cA 5, 5, .inr (.inr (.inr (.inr (gro 5 r8)))))), (q17, .inl (cA 2, 5, .inr (.inl (fun _ => 0))))] ++ grw 5 r8 (cA 1) 6 f_55) H := by rw [ef_55]; exact hP
  have hD : va_D A ([(a0, .inr (8, [.ref b1, .ref q8, .ref q17])), (q8, .inl (cA 5, 5, .inr (.inr (.inr (.inr (gro 5 r8)))))), (q17, .inl (cA 2, 5, .inr (.inl (fun _ => 0))))] ++ grw 5 r8 (cA 1) 6 f_55) := by rw [ef_55]; exact hD
  refine lv_iinc (v := (6 : Int32)) (lv' := [(3, .int (6 : Int32)), (2, .int (3 : Int32)), (0, .ref a0), (1, .ref b1)]) hx hb dX8_init_51 hl (k := 0) rfl (by decide) (by decide) rfl (fun ls hl => ?_)
  refine lv_goto (tgt := 36) hx hb dX8_init_54 (by decide) ?_
  refine lv_iload_n hx hb dX8_init_36 rfl (lv_at hl 0 rfl) ?_
  refine lv_bipush (v := (6 : Int32)) hx hb dX8_init_37 (by decide) ?_
  refine lv_icmp_ge (tgt := 57) hx hb dX8_init_39 (by decide) (fun c_56 => ?_) (fun c_56 => ?_)
  rotate_left
  · exact absurd (by decide) c_56
  refine lv_iinc (v := (4 : Int32)) (lv' := [(2, .int (4 : Int32)), (3, .int (6 : Int32)), (0, .ref a0), (1, .ref b1)]) hx hb dX8_init_57 hl (k := 1) rfl (by decide) (by decide) rfl (fun ls hl => ?_)
  refine lv_goto (tgt := 29) hx hb dX8_init_60 (by decide) ?_
  refine lv_iload_n hx hb dX8_init_29 rfl (lv_at hl 0 rfl) ?_
  refine lv_iconst (v := (5 : Int32)) hx hb dX8_init_30 (by decide) ?_
  refine lv_icmp_ge (tgt := 63) hx hb dX8_init_31 (by decide) (fun c_57 => ?_) (fun c_57 => ?_)
  · exact absurd c_57 (by decide)
  refine lv_iconst (v := (0 : Int32)) hx hb dX8_init_34 (by decide) ?_
  refine lv_istore_n (lv' := [(3, .int (0 : Int32)), (2, .int (4 : Int32)), (0, .ref a0), (1, .ref b1)]) hx hb dX8_init_35 rfl hl (by decide) rfl (fun ls hl => ?_)
  refine lv_iload_n hx hb dX8_init_36 rfl (lv_at hl 0 rfl) ?_
  refine lv_bipush (v := (6 : Int32)) hx hb dX8_init_37 (by decide) ?_
  refine lv_icmp_ge (tgt := 57) hx hb dX8_init_39 (by decide) (fun c_58 => ?_) (fun c_58 => ?_)
  · exact absurd c_58 (by decide)
  refine lv_aload_n hx hb dX8_init_42 rfl (lv_at hl 2 rfl) ?_
  refine va_get (D := D) (ci := 8) (v := .ref q8) (C := RX8) (T := TX8) (N := 3) hx hb hts hn_X8_init_X8 hown hK hP 0 rfl rfl 1 (by decide) (hts _ hw_X8_init_f11) (fun _ h9 => h9) rfl dX8_init_43 ?_
  refine lv_iload_n hx hb dX8_init_46 rfl (lv_at hl 1 rfl) ?_
  refine m_aald hx hb hK hP 1 rfl (show pin (4 : Int32) 5 by decide +kernel) dX8_init_47 ?_
  refine lv_iload_n hx hb dX8_init_48 rfl (lv_at hl 0 rfl) ?_
  refine lv_iconst (v := (5 : Int32)) hx hb dX8_init_49 (by decide) ?_
  refine m_rast (i := (4 : Int32)) hx hb hK hP hD hS rfl (show pin (4 : Int32) 5 by decide +kernel) (show pin (0 : Int32) 6 by decide +kernel) dX8_init_50 (fun H locs hP hD hS => ?_)
  obtain ⟨f_59, ef_59⟩ : ∃ z : Nat → Nat → Int32, z = up2 f_55 (4 : Int32).toNatClampNeg (0 : Int32).toNatClampNeg (5 : Int32) := ⟨_, rfl⟩
  have hP : va_P D vwCl ([(a0, .inr (8, [.ref b1, .ref q8, .ref q17])), (q8, .inl (cA 5, 5, .inr (.inr (.inr (.inr (gro 5 r8)))))), (q17, .inl (cA 2, 5, .inr (.inl (fun _ => 0))))] ++ grw 5 r8 (cA 1) 6 f_59) H := by rw [ef_59]; exact hP
  have hD : va_D A ([(a0, .inr (8, [.ref b1, .ref q8, .ref q17])), (q8, .inl (cA 5, 5, .inr (.inr (.inr (.inr (gro 5 r8)))))), (q17, .inl (cA 2, 5, .inr (.inl (fun _ => 0))))] ++ grw 5 r8 (cA 1) 6 f_59) := by rw [ef_59]; exact hD
  refine lv_iinc (v := (1 : Int32)) (lv' := [(3, .int (1 : Int32)), (2, .int (4 : Int32)), (0, .ref a0), (1, .ref b1)]) hx hb dX8_init_51 hl (k := 0) rfl (by decide) (by decide) rfl (fun ls hl => ?_)
  refine lv_goto (tgt := 36) hx hb dX8_init_54 (by decide) ?_
  refine lv_iload_n hx hb dX8_init_36 rfl (lv_at hl 0 rfl) ?_
  refine lv_bipush (v := (6 : Int32)) hx hb dX8_init_37 (by decide) ?_
  refine lv_icmp_ge (tgt := 57) hx hb dX8_init_39 (by decide) (fun c_60 => ?_) (fun c_60 => ?_)
  · exact absurd c_60 (by decide)
  refine lv_aload_n hx hb dX8_init_42 rfl (lv_at hl 2 rfl) ?_
  refine va_get (D := D) (ci := 8) (v := .ref q8) (C := RX8) (T := TX8) (N := 3) hx hb hts hn_X8_init_X8 hown hK hP 0 rfl rfl 1 (by decide) (hts _ hw_X8_init_f11) (fun _ h9 => h9) rfl dX8_init_43 ?_
  refine lv_iload_n hx hb dX8_init_46 rfl (lv_at hl 1 rfl) ?_
  refine m_aald hx hb hK hP 1 rfl (show pin (4 : Int32) 5 by decide +kernel) dX8_init_47 ?_
  refine lv_iload_n hx hb dX8_init_48 rfl (lv_at hl 0 rfl) ?_
  refine lv_iconst (v := (5 : Int32)) hx hb dX8_init_49 (by decide) ?_
  refine m_rast (i := (4 : Int32)) hx hb hK hP hD hS rfl (show pin (4 : Int32) 5 by decide +kernel) (show pin (1 : Int32) 6 by decide +kernel) dX8_init_50 (fun H locs hP hD hS => ?_)
  obtain ⟨f_61, ef_61⟩ : ∃ z : Nat → Nat → Int32, z = up2 f_59 (4 : Int32).toNatClampNeg (1 : Int32).toNatClampNeg (5 : Int32) := ⟨_, rfl⟩
  have hP : va_P D vwCl ([(a0, .inr (8, [.ref b1, .ref q8, .ref q17])), (q8, .inl (cA 5, 5, .inr (.inr (.inr (.inr (gro 5 r8)))))), (q17, .inl (cA 2, 5, .inr (.inl (fun _ => 0))))] ++ grw 5 r8 (cA 1) 6 f_61) H := by rw [ef_61]; exact hP
  have hD : va_D A ([(a0, .inr (8, [.ref b1, .ref q8, .ref q17])), (q8, .inl (cA 5, 5, .inr (.inr (.inr (.inr (gro 5 r8)))))), (q17, .inl (cA 2, 5, .inr (.inl (fun _ => 0))))] ++ grw 5 r8 (cA 1) 6 f_61) := by rw [ef_61]; exact hD
  refine lv_iinc (v := (2 : Int32)) (lv' := [(3, .int (2 : Int32)), (2, .int (4 : Int32)), (0, .ref a0), (1, .ref b1)]) hx hb dX8_init_51 hl (k := 0) rfl (by decide) (by decide) rfl (fun ls hl => ?_)
  refine lv_goto (tgt := 36) hx hb dX8_init_54 (by decide) ?_
  refine lv_iload_n hx hb dX8_init_36 rfl (lv_at hl 0 rfl) ?_
  refine lv_bipush (v := (6 : Int32)) hx hb dX8_init_37 (by decide) ?_
  refine lv_icmp_ge (tgt := 57) hx hb dX8_init_39 (by decide) (fun c_62 => ?_) (fun c_62 => ?_)
  · exact absurd c_62 (by decide)
  refine lv_aload_n hx hb dX8_init_42 rfl (lv_at hl 2 rfl) ?_
  refine va_get (D := D) (ci := 8) (v := .ref q8) (C := RX8) (T := TX8) (N := 3) hx hb hts hn_X8_init_X8 hown hK hP 0 rfl rfl 1 (by decide) (hts _ hw_X8_init_f11) (fun _ h9 => h9) rfl dX8_init_43 ?_
  refine lv_iload_n hx hb dX8_init_46 rfl (lv_at hl 1 rfl) ?_
  refine m_aald hx hb hK hP 1 rfl (show pin (4 : Int32) 5 by decide +kernel) dX8_init_47 ?_
  refine lv_iload_n hx hb dX8_init_48 rfl (lv_at hl 0 rfl) ?_
  refine lv_iconst (v := (5 : Int32)) hx hb dX8_init_49 (by decide) ?_
  refine m_rast (i := (4 : Int32)) hx hb hK hP hD hS rfl (show pin (4 : Int32) 5 by decide +kernel) (show pin (2 : Int32) 6 by decide +kernel) dX8_init_50 (fun H locs hP hD hS => ?_)
  obtain ⟨f_63, ef_63⟩ : ∃ z : Nat → Nat → Int32, z = up2 f_61 (4 : Int32).toNatClampNeg (2 : Int32).toNatClampNeg (5 : Int32) := ⟨_, rfl⟩
  have hP : va_P D vwCl ([(a0, .inr (8, [.ref b1, .ref q8, .ref q17])), (q8, .inl (cA 5, 5, .inr (.inr (.inr (.inr (gro 5 r8)))))), (q17, .inl (cA 2, 5, .inr (.inl (fun _ => 0))))] ++ grw 5 r8 (cA 1) 6 f_63) H := by rw [ef_63]; exact hP
  have hD : va_D A ([(a0, .inr (8, [.ref b1, .ref q8, .ref q17])), (q8, .inl (cA 5, 5, .inr (.inr (.inr (.inr (gro 5 r8)))))), (q17, .inl (cA 2, 5, .inr (.inl (fun _ => 0))))] ++ grw 5 r8 (cA 1) 6 f_63) := by rw [ef_63]; exact hD
  refine lv_iinc (v := (3 : Int32)) (lv' := [(3, .int (3 : Int32)), (2, .int (4 : Int32)), (0, .ref a0), (1, .ref b1)]) hx hb dX8_init_51 hl (k := 0) rfl (by decide) (by decide) rfl (fun ls hl => ?_)
  refine lv_goto (tgt := 36) hx hb dX8_init_54 (by decide) ?_
  refine lv_iload_n hx hb dX8_init_36 rfl (lv_at hl 0 rfl) ?_
  refine lv_bipush (v := (6 : Int32)) hx hb dX8_init_37 (by decide) ?_
  refine lv_icmp_ge (tgt := 57) hx hb dX8_init_39 (by decide) (fun c_64 => ?_) (fun c_64 => ?_)
  · exact absurd c_64 (by decide)
  refine lv_aload_n hx hb dX8_init_42 rfl (lv_at hl 2 rfl) ?_
  refine va_get (D := D) (ci := 8) (v := .ref q8) (C := RX8) (T := TX8) (N := 3) hx hb hts hn_X8_init_X8 hown hK hP 0 rfl rfl 1 (by decide) (hts _ hw_X8_init_f11) (fun _ h9 => h9) rfl dX8_init_43 ?_
  refine lv_iload_n hx hb dX8_init_46 rfl (lv_at hl 1 rfl) ?_
  refine m_aald hx hb hK hP 1 rfl (show pin (4 : Int32) 5 by decide +kernel) dX8_init_47 ?_
  refine lv_iload_n hx hb dX8_init_48 rfl (lv_at hl 0 rfl) ?_
  refine lv_iconst (v := (5 : Int32)) hx hb dX8_init_49 (by decide) ?_
  refine m_rast (i := (4 : Int32)) hx hb hK hP hD hS rfl (show pin (4 : Int32) 5 by decide +kernel) (show pin (3 : Int32) 6 by decide +kernel) dX8_init_50 (fun H locs hP hD hS => ?_)
  obtain ⟨f_65, ef_65⟩ : ∃ z : Nat → Nat → Int32, z = up2 f_63 (4 : Int32).toNatClampNeg (3 : Int32).toNatClampNeg (5 : Int32) := ⟨_, rfl⟩
  have hP : va_P D vwCl ([(a0, .inr (8, [.ref b1, .ref q8, .ref q17])), (q8, .inl (cA 5, 5, .inr (.inr (.inr (.inr (gro 5 r8)))))), (q17, .inl (cA 2, 5, .inr (.inl (fun _ => 0))))] ++ grw 5 r8 (cA 1) 6 f_65) H := by rw [ef_65]; exact hP
  have hD : va_D A ([(a0, .inr (8, [.ref b1, .ref q8, .ref q17])), (q8, .inl (cA 5, 5, .inr (.inr (.inr (.inr (gro 5 r8)))))), (q17, .inl (cA 2, 5, .inr (.inl (fun _ => 0))))] ++ grw 5 r8 (cA 1) 6 f_65) := by rw [ef_65]; exact hD
  refine lv_iinc (v := (4 : Int32)) (lv' := [(3, .int (4 : Int32)), (2, .int (4 : Int32)), (0, .ref a0), (1, .ref b1)]) hx hb dX8_init_51 hl (k := 0) rfl (by decide) (by decide) rfl (fun ls hl => ?_)
  refine lv_goto (tgt := 36) hx hb dX8_init_54 (by decide) ?_
  refine lv_iload_n hx hb dX8_init_36 rfl (lv_at hl 0 rfl) ?_
  refine lv_bipush (v := (6 : Int32)) hx hb dX8_init_37 (by decide) ?_
  refine lv_icmp_ge (tgt := 57) hx hb dX8_init_39 (by decide) (fun c_66 => ?_) (fun c_66 => ?_)
  · exact absurd c_66 (by decide)
  refine lv_aload_n hx hb dX8_init_42 rfl (lv_at hl 2 rfl) ?_
  refine va_get (D := D) (ci := 8) (v := .ref q8) (C := RX8) (T := TX8) (N := 3) hx hb hts hn_X8_init_X8 hown hK hP 0 rfl rfl 1 (by decide) (hts _ hw_X8_init_f11) (fun _ h9 => h9) rfl dX8_init_43 ?_
  refine lv_iload_n hx hb dX8_init_46 rfl (lv_at hl 1 rfl) ?_
  refine m_aald hx hb hK hP 1 rfl (show pin (4 : Int32) 5 by decide +kernel) dX8_init_47 ?_
  refine lv_iload_n hx hb dX8_init_48 rfl (lv_at hl 0 rfl) ?_
  refine lv_iconst (v := (5 : Int32)) hx hb dX8_init_49 (by decide) ?_
  refine m_rast (i := (4 : Int32)) hx hb hK hP hD hS rfl (show pin (4 : Int32) 5 by decide +kernel) (show pin (4 : Int32) 6 by decide +kernel) dX8_init_50 (fun H locs hP hD hS => ?_)
  obtain ⟨f_67, ef_67⟩ : ∃ z : Nat → Nat → Int32, z = up2 f_65 (4 : Int32).toNatClampNeg (4 : Int32).toNatClampNeg (5 : Int32) := ⟨_, rfl⟩
  have hP : va_P D vwCl ([(a0, .inr (8, [.ref b1, .ref q8, .ref q17])), (q8, .inl (cA 5, 5, .inr (.inr (.inr (.inr (gro 5 r8)))))), (q17, .inl (cA 2, 5, .inr (.inl (fun _ => 0))))] ++ grw 5 r8 (cA 1) 6 f_67) H := by rw [ef_67]; exact hP
  have hD : va_D A ([(a0, .inr (8, [.ref b1, .ref q8, .ref q17])), (q8, .inl (cA 5, 5, .inr (.inr (.inr (.inr (gro 5 r8)))))), (q17, .inl (cA 2, 5, .inr (.inl (fun _ => 0))))] ++ grw 5 r8 (cA 1) 6 f_67) := by rw [ef_67]; exact hD
  refine lv_iinc (v := (5 : Int32)) (lv' := [(3, .int (5 : Int32)), (2, .int (4 : Int32)), (0, .ref a0), (1, .ref b1)]) hx hb dX8_init_51 hl (k := 0) rfl (by decide) (by decide) rfl (fun ls hl => ?_)
  refine lv_goto (tgt := 36) hx hb dX8_init_54 (by decide) ?_
  refine lv_iload_n hx hb dX8_init_36 rfl (lv_at hl 0 rfl) ?_
  refine lv_bipush (v := (6 : Int32)) hx hb dX8_init_37 (by decide) ?_
  refine lv_icmp_ge (tgt := 57) hx hb dX8_init_39 (by decide) (fun c_68 => ?_) (fun c_68 => ?_)
  · exact absurd c_68 (by decide)
  refine lv_aload_n hx hb dX8_init_42 rfl (lv_at hl 2 rfl) ?_
  refine va_get (D := D) (ci := 8) (v := .ref q8) (C := RX8) (T := TX8) (N := 3) hx hb hts hn_X8_init_X8 hown hK hP 0 rfl rfl 1 (by decide) (hts _ hw_X8_init_f11) (fun _ h9 => h9) rfl dX8_init_43 ?_
  refine lv_iload_n hx hb dX8_init_46 rfl (lv_at hl 1 rfl) ?_
  refine m_aald hx hb hK hP 1 rfl (show pin (4 : Int32) 5 by decide +kernel) dX8_init_47 ?_
  refine lv_iload_n hx hb dX8_init_48 rfl (lv_at hl 0 rfl) ?_
  refine lv_iconst (v := (5 : Int32)) hx hb dX8_init_49 (by decide) ?_
  refine m_rast (i := (4 : Int32)) hx hb hK hP hD hS rfl (show pin (4 : Int32) 5 by decide +kernel) (show pin (5 : Int32) 6 by decide +kernel) dX8_init_50 (fun H locs hP hD hS => ?_)
  obtain ⟨f_69, ef_69⟩ : ∃ z : Nat → Nat → Int32, z = up2 f_67 (4 : Int32).toNatClampNeg (5 : Int32).toNatClampNeg (5 : Int32) := ⟨_, rfl⟩
  have hP : va_P D vwCl ([(a0, .inr (8, [.ref b1, .ref q8, .ref q17])), (q8, .inl (cA 5, 5, .inr (.inr (.inr (.inr (gro 5 r8)))))), (q17, .inl (cA 2, 5, .inr (.inl (fun _ => 0))))] ++ grw 5 r8 (cA 1) 6 f_69) H := by rw [ef_69]; exact hP
  have hD : va_D A ([(a0, .inr (8, [.ref b1, .ref q8, .ref q17])), (q8, .inl (cA 5, 5, .inr (.inr (.inr (.inr (gro 5 r8)))))), (q17, .inl (cA 2, 5, .inr (.inl (fun _ => 0))))] ++ grw 5 r8 (cA 1) 6 f_69) := by rw [ef_69]; exact hD
  refine lv_iinc (v := (6 : Int32)) (lv' := [(3, .int (6 : Int32)), (2, .int (4 : Int32)), (0, .ref a0), (1, .ref b1)]) hx hb dX8_init_51 hl (k := 0) rfl (by decide) (by decide) rfl (fun ls hl => ?_)
  refine lv_goto (tgt := 36) hx hb dX8_init_54 (by decide) ?_
  refine lv_iload_n hx hb dX8_init_36 rfl (lv_at hl 0 rfl) ?_
  refine lv_bipush (v := (6 : Int32)) hx hb dX8_init_37 (by decide) ?_
  refine lv_icmp_ge (tgt := 57) hx hb dX8_init_39 (by decide) (fun c_70 => ?_) (fun c_70 => ?_)
  rotate_left
  · exact absurd (by decide) c_70
  refine lv_iinc (v := (5 : Int32)) (lv' := [(2, .int (5 : Int32)), (3, .int (6 : Int32)), (0, .ref a0), (1, .ref b1)]) hx hb dX8_init_57 hl (k := 1) rfl (by decide) (by decide) rfl (fun ls hl => ?_)
  refine lv_goto (tgt := 29) hx hb dX8_init_60 (by decide) ?_
  refine lv_iload_n hx hb dX8_init_29 rfl (lv_at hl 0 rfl) ?_
  refine lv_iconst (v := (5 : Int32)) hx hb dX8_init_30 (by decide) ?_
  refine lv_icmp_ge (tgt := 63) hx hb dX8_init_31 (by decide) (fun c_71 => ?_) (fun c_71 => ?_)
  rotate_left
  · exact absurd (by decide) c_71
  subst ef_69
  subst ef_67
  subst ef_65
  subst ef_63
  subst ef_61
  subst ef_59
  subst ef_55
  subst ef_53
  subst ef_51
  subst ef_49
  subst ef_47
  subst ef_45
  subst ef_41
  subst ef_39
  subst ef_37
  subst ef_35
  subst ef_33
  subst ef_31
  subst ef_27
  subst ef_25
  subst ef_23
  subst ef_21
  subst ef_19
  subst ef_17
  subst ef_13
  subst ef_11
  subst ef_9
  subst ef_7
  subst ef_5
  subst ef_3
  exact m_vretI (u := (fun j => [q8, q17].getD j 0, fun k => [r8].getD k (fun _ => 0))) hx hb hr hlocks hP hD hS (Nat.le_of_ble_eq_true rfl) (Nat.le_of_ble_eq_true rfl) dX8_init_63
