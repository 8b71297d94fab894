/-! ===== new OrphanWave()V ===== -/
abbrev rm_X11_init : Room := { frames := 3, cells := 97, slots := 1654, locals := 52 }
theorem hn_X11_init_X9 : ∀ w ∈ u_ws RX9 TX9 2, w ∈ wsX11_init := by decide +kernel
theorem hn_X11_init_X11 : ∀ w ∈ u_ws RX11 TX11 11, w ∈ wsX11_init := by decide +kernel
theorem hn_X11_init_X4 : ∀ w ∈ u_ws RX4 TX4 5, w ∈ wsX11_init := by decide +kernel
theorem hn_X11_init_X10 : ∀ w ∈ u_ws RX10 TX10 6, w ∈ wsX11_init := by decide +kernel
theorem hn_X11_init_X2 : ∀ w ∈ u_ws RX2 TX2 6, w ∈ wsX11_init := by decide +kernel
theorem hn_X11_init_X5 : ∀ w ∈ u_ws RX5 TX5 3, w ∈ wsX11_init := by decide +kernel
theorem hn_X11_init_X8 : ∀ w ∈ u_ws RX8 TX8 3, w ∈ wsX11_init := by decide +kernel
theorem hn_X11_init_X7 : ∀ w ∈ u_ws RX7 TX7 2, w ∈ wsX11_init := by decide +kernel
theorem hn_X11_init_X1 : ∀ w ∈ u_ws RX1 TX1 3, w ∈ wsX11_init := by decide +kernel
theorem hw_X11_init_m3 : Cond.methodLink RX11 3 objectInit ∈ wsX11_init := by decide +kernel
theorem hw_X11_init_ioi : Cond.instanceMethod objectInit ∈ wsX11_init := by decide +kernel
theorem hw_X11_init_koi : Cond.code objectInit ⟨#[0xb1]⟩ 1 none ∈ wsX11_init := by decide +kernel
theorem hw_X11_init_l9 : Cond.classLink RX11 9 RX9 ∈ wsX11_init := by decide +kernel
theorem hw_X11_init_nX9 : Cond.instantiable RX9 2 ∈ wsX11_init := by decide +kernel
theorem hw_X11_init_iX9 : Cond.initialized RX9 ∈ wsX11_init := by decide +kernel
theorem hw_X11_init_imX9_init : Cond.instanceMethod yX9_init ∈ wsX11_init := by decide +kernel
theorem hw_X11_init_f12 : Cond.fieldLink RX11 12 "OrphanWave" "text" "LOrphanWave$Text;" ∈ wsX11_init := by decide +kernel
theorem hw_X11_init_l16 : Cond.classLink RX11 16 RX4 ∈ wsX11_init := by decide +kernel
theorem hw_X11_init_nX4 : Cond.instantiable RX4 5 ∈ wsX11_init := by decide +kernel
theorem hw_X11_init_iX4 : Cond.initialized RX4 ∈ wsX11_init := by decide +kernel
theorem hw_X11_init_imX4_init : Cond.instanceMethod yX4_init ∈ wsX11_init := by decide +kernel
theorem hw_X11_init_f19 : Cond.fieldLink RX11 19 "OrphanWave" "ocean" "LOrphanWave$Ocean;" ∈ wsX11_init := by decide +kernel
theorem hw_X11_init_l23 : Cond.classLink RX11 23 RX10 ∈ wsX11_init := by decide +kernel
theorem hw_X11_init_nX10 : Cond.instantiable RX10 6 ∈ wsX11_init := by decide +kernel
theorem hw_X11_init_iX10 : Cond.initialized RX10 ∈ wsX11_init := by decide +kernel
theorem hw_X11_init_imX10_init : Cond.instanceMethod yX10_init ∈ wsX11_init := by decide +kernel
theorem hw_X11_init_f26 : Cond.fieldLink RX11 26 "OrphanWave" "trees" "LOrphanWave$Trees;" ∈ wsX11_init := by decide +kernel
theorem hw_X11_init_l30 : Cond.classLink RX11 30 RX2 ∈ wsX11_init := by decide +kernel
theorem hw_X11_init_nX2 : Cond.instantiable RX2 6 ∈ wsX11_init := by decide +kernel
theorem hw_X11_init_iX2 : Cond.initialized RX2 ∈ wsX11_init := by decide +kernel
theorem hw_X11_init_imX2_init : Cond.instanceMethod yX2_init ∈ wsX11_init := by decide +kernel
theorem hw_X11_init_f33 : Cond.fieldLink RX11 33 "OrphanWave" "found" "LOrphanWave$Findings;" ∈ wsX11_init := by decide +kernel
theorem hw_X11_init_l30a : Cond.classLink RX11 30 "OrphanWave$Findings" ∈ wsX11_init := by decide +kernel
theorem hw_X11_init_f37 : Cond.fieldLink RX11 37 "OrphanWave" "images" "[LOrphanWave$Findings;" ∈ wsX11_init := by decide +kernel
theorem hw_X11_init_l41 : Cond.classLink RX11 41 RX5 ∈ wsX11_init := by decide +kernel
theorem hw_X11_init_nX5 : Cond.instantiable RX5 3 ∈ wsX11_init := by decide +kernel
theorem hw_X11_init_iX5 : Cond.initialized RX5 ∈ wsX11_init := by decide +kernel
theorem hw_X11_init_imX5_init : Cond.instanceMethod yX5_init ∈ wsX11_init := by decide +kernel
theorem hw_X11_init_m47 : Cond.methodLink RX11 47 yX5_init ∈ wsX11_init := by decide +kernel
theorem hw_X11_init_f50 : Cond.fieldLink RX11 50 "OrphanWave" "search" "LOrphanWave$Search;" ∈ wsX11_init := by decide +kernel
theorem hw_X11_init_l54 : Cond.classLink RX11 54 RX8 ∈ wsX11_init := by decide +kernel
theorem hw_X11_init_nX8 : Cond.instantiable RX8 3 ∈ wsX11_init := by decide +kernel
theorem hw_X11_init_iX8 : Cond.initialized RX8 ∈ wsX11_init := by decide +kernel
theorem hw_X11_init_imX8_init : Cond.instanceMethod yX8_init ∈ wsX11_init := by decide +kernel
theorem hw_X11_init_m56 : Cond.methodLink RX11 56 yX8_init ∈ wsX11_init := by decide +kernel
theorem hw_X11_init_f59 : Cond.fieldLink RX11 59 "OrphanWave" "stories" "LOrphanWave$Stories;" ∈ wsX11_init := by decide +kernel
theorem hw_X11_init_l63 : Cond.classLink RX11 63 RX7 ∈ wsX11_init := by decide +kernel
theorem hw_X11_init_nX7 : Cond.instantiable RX7 2 ∈ wsX11_init := by decide +kernel
theorem hw_X11_init_iX7 : Cond.initialized RX7 ∈ wsX11_init := by decide +kernel
theorem hw_X11_init_imX7_init : Cond.instanceMethod yX7_init ∈ wsX11_init := by decide +kernel
theorem hw_X11_init_m65 : Cond.methodLink RX11 65 yX7_init ∈ wsX11_init := by decide +kernel
theorem hw_X11_init_f66 : Cond.fieldLink RX11 66 "OrphanWave" "signs" "LOrphanWave$Signs;" ∈ wsX11_init := by decide +kernel
theorem hw_X11_init_l70 : Cond.classLink RX11 70 RX1 ∈ wsX11_init := by decide +kernel
theorem hw_X11_init_nX1 : Cond.instantiable RX1 3 ∈ wsX11_init := by decide +kernel
theorem hw_X11_init_iX1 : Cond.initialized RX1 ∈ wsX11_init := by decide +kernel
theorem hw_X11_init_imX1_init : Cond.instanceMethod yX1_init ∈ wsX11_init := by decide +kernel
theorem hw_X11_init_f73 : Cond.fieldLink RX11 73 "OrphanWave" "calendar" "LOrphanWave$Calendar;" ∈ wsX11_init := by decide +kernel
theorem hw_X11_init_f77 : Cond.fieldLink RX11 77 "OrphanWave" "draft" "LOrphanWave$Calendar;" ∈ wsX11_init := by decide +kernel
theorem hw_X11_init_f80 : Cond.fieldLink RX11 80 "OrphanWave" "yearOfNow" "I" ∈ wsX11_init := by decide +kernel
/-- the cells of a new object: its own, then those of its parts -/
abbrev wn_X11_init (cA : Nat → ClassId) (a0 : Nat) (u : (Nat → Nat) × (Nat → FR)) : va_W := ([((u.1 4), .inl (cA 4, 2, .inr (.inr (.inr (.inr (va_up (va_up (fun _ => none) (0 : Int32).toNatClampNeg (some (u.1 10))) (1 : Int32).toNatClampNeg (some (u.1 11)))))))), (a0, .inr (11, [.ref (u.1 0), .ref (u.1 1), .ref (u.1 2), .ref (u.1 3), .ref (u.1 4), .ref (u.1 5), .ref (u.1 6), .ref (u.1 7), .ref (u.1 8), .ref (u.1 9), .int (2000 : Int32)]))] : va_W) ++ (((((((((((((((((((((([] : va_W) ++ ([((u.1 0), .inr (9, [.ref ((u.2 0).1 0), .int 0])), (((u.2 0).1 0), .inl (cA 0, 400, .inl (fun _ => 0)))] : va_W)) : va_W) ++ ([((u.1 1), .inr (4, [.ref ((u.2 1).1 0), .ref ((u.2 1).1 1), .ref ((u.2 1).1 2), .int (3 : Int32), .int (100 : Int32)])), (((u.2 1).1 0), .inl (cA 1, 48, .inl (fun _ => 0))), (((u.2 1).1 1), .inl (cA 1, 48, .inl (fun _ => 0))), (((u.2 1).1 2), .inl (cA 1, 48, .inl (fun _ => 0)))] : va_W)) : va_W) ++ (([((u.1 2), .inr (10, [.ref ((u.2 2).1 0), .ref ((u.2 2).1 1), .ref ((u.2 2).1 2), .ref ((u.2 2).1 3), .int 0, .int (1000 : Int32)])), (((u.2 2).1 0), .inl (cA 1, 60, .inl (fun _ => 0))), (((u.2 2).1 1), .inl (cA 5, 4, .inr (.inr (.inr (.inr (gro 4 ((u.2 2).2 0))))))), (((u.2 2).1 2), .inl (cA 1, 4, .inl (fun _ => 0))), (((u.2 2).1 3), .inl (cA 1, 4, .inl (fun _ => 0)))] ++ grw 4 ((u.2 2).2 0) (cA 1) 30 (fun _ _ => 0)) : va_W)) : va_W) ++ ([((u.1 3), .inr (2, [.ref ((u.2 3).1 0), .ref ((u.2 3).1 6), .ref ((u.2 3).1 10), .ref ((u.2 3).1 12), .int 0, .int 0])), (((u.2 3).1 0), .inr (0, [.ref ((u.2 3).1 1), .ref ((u.2 3).1 2), .ref ((u.2 3).1 3), .ref ((u.2 3).1 4), .ref ((u.2 3).1 5), .int 0])), (((u.2 3).1 1), .inl (cA 1, 6, .inl (fun _ => 0))), (((u.2 3).1 2), .inl (cA 1, 6, .inl (fun _ => 0))), (((u.2 3).1 3), .inl (cA 1, 6, .inl (fun _ => 0))), (((u.2 3).1 4), .inl (cA 1, 6, .inl (fun _ => 0))), (((u.2 3).1 5), .inl (cA 1, 6, .inl (fun _ => 0))), (((u.2 3).1 6), .inr (6, [.ref ((u.2 3).1 7), .ref ((u.2 3).1 8), .ref ((u.2 3).1 9), .int 0])), (((u.2 3).1 7), .inl (cA 1, 12, .inl (fun _ => 0))), (((u.2 3).1 8), .inl (cA 1, 12, .inl (fun _ => 0))), (((u.2 3).1 9), .inl (cA 1, 12, .inl (fun _ => 0))), (((u.2 3).1 10), .inr (3, [.ref ((u.2 3).1 11), .int 0])), (((u.2 3).1 11), .inl (cA 1, 16, .inl (fun _ => 0))), (((u.2 3).1 12), .inl (cA 2, 5, .inr (.inl kc_X2_init_q39)))] : va_W)) : va_W) ++ (([((u.1 5), .inr (5, [.ref (u.1 1), .ref ((u.2 3).1 0), .ref ((u.2 4).1 0)])), (((u.2 4).1 0), .inl (cA 5, 6, .inr (.inr (.inr (.inr (gro 6 ((u.2 4).2 0)))))))] ++ grw 6 ((u.2 4).2 0) (cA 1) 48 (fun _ _ => 0)) : va_W)) : va_W) ++ (([((u.1 6), .inr (8, [.ref (u.1 3), .ref ((u.2 5).1 0), .ref ((u.2 5).1 1)])), (((u.2 5).1 0), .inl (cA 5, 5, .inr (.inr (.inr (.inr (gro 5 ((u.2 5).2 0))))))), (((u.2 5).1 1), .inl (cA 2, 5, .inr (.inl (fun _ => 0))))] ++ grw 5 ((u.2 5).2 0) (cA 1) 6 kc_X8_init_r8) : va_W)) : va_W) ++ ([((u.1 7), .inr (7, [.ref (u.1 3), .long 0]))] : va_W)) : va_W) ++ (([((u.1 8), .inr (1, [.ref ((u.2 7).1 0), .ref ((u.2 7).1 1), .int 0])), (((u.2 7).1 0), .inl (cA 5, 8, .inr (.inr (.inr (.inr (gro 8 ((u.2 7).2 0))))))), (((u.2 7).1 1), .inl (cA 1, 8, .inl (fun _ => 0)))] ++ grw 8 ((u.2 7).2 0) (cA 1) 13 (fun _ _ => 0)) : va_W)) : va_W) ++ (([((u.1 9), .inr (1, [.ref ((u.2 8).1 0), .ref ((u.2 8).1 1), .int 0])), (((u.2 8).1 0), .inl (cA 5, 8, .inr (.inr (.inr (.inr (gro 8 ((u.2 8).2 0))))))), (((u.2 8).1 1), .inl (cA 1, 8, .inl (fun _ => 0)))] ++ grw 8 ((u.2 8).2 0) (cA 1) 13 (fun _ _ => 0)) : va_W)) : va_W) ++ ([((u.1 10), .inr (2, [.ref ((u.2 9).1 0), .ref ((u.2 9).1 6), .ref ((u.2 9).1 10), .ref ((u.2 9).1 12), .int 0, .int 0])), (((u.2 9).1 0), .inr (0, [.ref ((u.2 9).1 1), .ref ((u.2 9).1 2), .ref ((u.2 9).1 3), .ref ((u.2 9).1 4), .ref ((u.2 9).1 5), .int 0])), (((u.2 9).1 1), .inl (cA 1, 6, .inl (fun _ => 0))), (((u.2 9).1 2), .inl (cA 1, 6, .inl (fun _ => 0))), (((u.2 9).1 3), .inl (cA 1, 6, .inl (fun _ => 0))), (((u.2 9).1 4), .inl (cA 1, 6, .inl (fun _ => 0))), (((u.2 9).1 5), .inl (cA 1, 6, .inl (fun _ => 0))), (((u.2 9).1 6), .inr (6, [.ref ((u.2 9).1 7), .ref ((u.2 9).1 8), .ref ((u.2 9).1 9), .int 0])), (((u.2 9).1 7), .inl (cA 1, 12, .inl (fun _ => 0))), (((u.2 9).1 8), .inl (cA 1, 12, .inl (fun _ => 0))), (((u.2 9).1 9), .inl (cA 1, 12, .inl (fun _ => 0))), (((u.2 9).1 10), .inr (3, [.ref ((u.2 9).1 11), .int 0])), (((u.2 9).1 11), .inl (cA 1, 16, .inl (fun _ => 0))), (((u.2 9).1 12), .inl (cA 2, 5, .inr (.inl kc_X2_init_q39)))] : va_W)) : va_W) ++ ([((u.1 11), .inr (2, [.ref ((u.2 10).1 0), .ref ((u.2 10).1 6), .ref ((u.2 10).1 10), .ref ((u.2 10).1 12), .int 0, .int 0])), (((u.2 10).1 0), .inr (0, [.ref ((u.2 10).1 1), .ref ((u.2 10).1 2), .ref ((u.2 10).1 3), .ref ((u.2 10).1 4), .ref ((u.2 10).1 5), .int 0])), (((u.2 10).1 1), .inl (cA 1, 6, .inl (fun _ => 0))), (((u.2 10).1 2), .inl (cA 1, 6, .inl (fun _ => 0))), (((u.2 10).1 3), .inl (cA 1, 6, .inl (fun _ => 0))), (((u.2 10).1 4), .inl (cA 1, 6, .inl (fun _ => 0))), (((u.2 10).1 5), .inl (cA 1, 6, .inl (fun _ => 0))), (((u.2 10).1 6), .inr (6, [.ref ((u.2 10).1 7), .ref ((u.2 10).1 8), .ref ((u.2 10).1 9), .int 0])), (((u.2 10).1 7), .inl (cA 1, 12, .inl (fun _ => 0))), (((u.2 10).1 8), .inl (cA 1, 12, .inl (fun _ => 0))), (((u.2 10).1 9), .inl (cA 1, 12, .inl (fun _ => 0))), (((u.2 10).1 10), .inr (3, [.ref ((u.2 10).1 11), .int 0])), (((u.2 10).1 11), .inl (cA 1, 16, .inl (fun _ => 0))), (((u.2 10).1 12), .inl (cA 2, 5, .inr (.inl kc_X2_init_q39)))] : va_W))
set_option maxRecDepth 100000 in
set_option maxHeartbeats 4000000 in
theorem ci_X11_init (l : Launch) (D : va_G) (cA : Nat → ClassId) (a0 : Nat) : CTI l yX11_init wsX11_init rm_X11_init D cA [.ref a0] [(a0, .inr (11, [.null, .null, .null, .null, .null, .null, .null, .null, .null, .null, .int 0]))] (wn_X11_init cA a0) 97 1654 := by
  refine CTI.ofW (cc := cX11_init) (maxL := 2) (by decide +kernel) rfl rfl (Nat.le_of_ble_eq_true rfl) ?_
  intro p e s m below meth c A C0 hA hP hD ls hl
  have C0 : MXI p s m [.ref a0].toArray meth c cX11_init 2 wsX11_init RX11 D cA := C0
  have hl : lv_has ls 2 [(0, .ref a0)] := hl
  obtain ⟨hx, hb, hml, hown, hts, hr, hlocks, hin, hX⟩ := C0
  have hK := hX.1.1
  have hN := hX.1.2
  have hS : va_S A s.heap s.heap [] := va_S.rf
  refine lv_aload_n hx hb dX11_init_0 rfl (lv_at hl 0 rfl) ?_
  refine W.objInit hx hb hown (hts _ hw_X11_init_m3) (hts _ hw_X11_init_ioi) (hts _ hw_X11_init_koi) rfl (by rw [hml]; exact hl.1) rfl dX11_init_1 (Nat.le_of_ble_eq_true rfl) (Nat.le_of_ble_eq_true rfl) ?_
  refine W.eq (g2 := F0 m 4 ls []) rfl ?_
  refine lv_aload_n hx hb dX11_init_4 rfl (lv_at hl 0 rfl) ?_
  refine va_new (ci := 9) (fs := [.null, .int 0]) (C := RX9) (T := TX9) (N := 2) hx hb hts hn_X11_init_X9 tyX9 tyX9_ok hown (hts _ hw_X11_init_l9) (hts _ hw_X11_init_nX9) (hts _ hw_X11_init_iX9) hK hP hD hS hA rfl (fun j hj => by rcases (show j = 0 ∨ j = 1 by omega) with rfl | rfl <;> rfl) (Nat.le_of_ble_eq_true rfl) (Nat.le_of_ble_eq_true rfl) dX11_init_5 (fun q_1 H hP hD hS => ?_)
  have hP := rot_P hP
  have hD := rot_D hD
  have hP : va_P D vwCl [(q_1, .inr (9, [.null, .int 0])), (a0, .inr (11, [.null, .null, .null, .null, .null, .null, .null, .null, .null, .null, .int 0]))] H := hP
  have hD : va_D A [(q_1, .inr (9, [.null, .int 0])), (a0, .inr (11, [.null, .null, .null, .null, .null, .null, .null, .null, .null, .null, .int 0]))] := hD
  refine W.widen (k := 1) (n := 2) (by omega) (by omega) ?_
  refine lv_dup hx hb dX11_init_8 rfl ?_
  refine m_callINL (As := []) (rest := [.ref q_1, .ref a0]) (WR := [(a0, .inr (11, [.null, .null, .null, .null, .null, .null, .null, .null, .null, .null, .int 0]))]) ⟨hx, hb, hml, hown, hts⟩ hX (ci_X9_init l D cA q_1) ⟨va_cnB 0 hts ggX11_init_X9_init rfl rfl rfl (hN _ nw_X11_11) (hts _ hw_X11_init_iX9) (by decide +kernel) ⟨Nat.le_of_ble_eq_true rfl, Nat.le_of_ble_eq_true rfl⟩, rfl, hts _ hw_X11_init_imX9_init⟩ hP hD hS hA rfl hl.1 rfl (Nat.le_of_ble_eq_true rfl) ⟨Nat.le_of_ble_eq_true rfl, Nat.le_of_ble_eq_true rfl⟩ dX11_init_9 (fun u_2 H locs hP hD hS => ?_)
  obtain ⟨Z1, eZ1⟩ : ∃ z : va_W, z = ([] : va_W) ++ ([(q_1, .inr (9, [.ref (u_2.1 0), .int 0])), ((u_2.1 0), .inl (cA 0, 400, .inl (fun _ => 0)))] : va_W) := ⟨_, rfl⟩
  have hP : va_P D vwCl (([(a0, .inr (11, [.null, .null, .null, .null, .null, .null, .null, .null, .null, .null, .int 0]))] : va_W) ++ Z1) H := by rw [eZ1]; exact hP
  have hD : va_D A (([(a0, .inr (11, [.null, .null, .null, .null, .null, .null, .null, .null, .null, .null, .int 0]))] : va_W) ++ Z1) := by rw [eZ1]; exact hD
  refine W.widen (k := 2) (n := 402) (by omega) (by omega) ?_
  refine va_putF (D := D) (ci := 11) (v := .ref q_1) (ty := .object "OrphanWave$Text") (C := RX11) (T := TX11) (N := 11) hx hb hts hn_X11_init_X11 tyX11 tyX11_ok nmX11 hown hK hP hD hS 0 rfl rfl 0 (by decide) (hts _ hw_X11_init_f12) (fun _ h9 => h9) rfl hin rfl (by decide +kernel) rfl rfl (Nat.le_of_ble_eq_true rfl) dX11_init_12 (fun H locs hP hD hS => ?_)
  have hP : va_P D vwCl (([(a0, .inr (11, [.ref q_1, .null, .null, .null, .null, .null, .null, .null, .null, .null, .int 0]))] : va_W) ++ Z1) H := hP
  have hD : va_D A (([(a0, .inr (11, [.ref q_1, .null, .null, .null, .null, .null, .null, .null, .null, .null, .int 0]))] : va_W) ++ Z1) := hD
  refine lv_aload_n hx hb dX11_init_15 rfl (lv_at hl 0 rfl) ?_
  refine va_new (ci := 4) (fs := [.null, .null, .null, .int 0, .int 0]) (C := RX4) (T := TX4) (N := 5) hx hb hts hn_X11_init_X4 tyX4 tyX4_ok hown (hts _ hw_X11_init_l16) (hts _ hw_X11_init_nX4) (hts _ hw_X11_init_iX4) hK hP hD hS hA rfl (fun j hj => by rcases (show j = 0 ∨ j = 1 ∨ j = 2 ∨ j = 3 ∨ j = 4 by omega) with rfl | rfl | rfl | rfl | rfl <;> rfl) (Nat.le_of_ble_eq_true rfl) (Nat.le_of_ble_eq_true rfl) dX11_init_16 (fun q_3 H hP hD hS => ?_)
  have hP := rot_P hP
  have hD := rot_D hD
  have hP : va_P D vwCl (([(q_3, .inr (4, [.null, .null, .null, .int 0, .int 0])), (a0, .inr (11, [.ref q_1, .null, .null, .null, .null, .null, .null, .null, .null, .null, .int 0]))] : va_W) ++ Z1) H := hP
  have hD : va_D A (([(q_3, .inr (4, [.null, .null, .null, .int 0, .int 0])), (a0, .inr (11, [.ref q_1, .null, .null, .null, .null, .null, .null, .null, .null, .null, .int 0]))] : va_W) ++ Z1) := hD
  refine W.widen (k := 3) (n := 407) (by omega) (by omega) ?_
  refine lv_dup hx hb dX11_init_19 rfl ?_
  refine m_callINL (As := []) (rest := [.ref q_3, .ref a0]) (WR := (([(a0, .inr (11, [.ref q_1, .null, .null, .null, .null, .null, .null, .null, .null, .null, .int 0]))] : va_W) ++ Z1)) ⟨hx, hb, hml, hown, hts⟩ hX (ci_X4_init l D cA q_3) ⟨va_cnB 0 hts ggX11_init_X4_init rfl rfl rfl (hN _ nw_X11_18) (hts _ hw_X11_init_iX4) (by decide +kernel) ⟨Nat.le_of_ble_eq_true rfl, Nat.le_of_ble_eq_true rfl⟩, rfl, hts _ hw_X11_init_imX4_init⟩ hP hD hS hA rfl hl.1 rfl (Nat.le_of_ble_eq_true rfl) ⟨Nat.le_of_ble_eq_true rfl, Nat.le_of_ble_eq_true rfl⟩ dX11_init_20 (fun u_4 H locs hP hD hS => ?_)
  obtain ⟨Z2, eZ2⟩ : ∃ z : va_W, z = (Z1 : va_W) ++ ([(q_3, .inr (4, [.ref (u_4.1 0), .ref (u_4.1 1), .ref (u_4.1 2), .int (3 : Int32), .int (100 : Int32)])), ((u_4.1 0), .inl (cA 1, 48, .inl (fun _ => 0))), ((u_4.1 1), .inl (cA 1, 48, .inl (fun _ => 0))), ((u_4.1 2), .inl (cA 1, 48, .inl (fun _ => 0)))] : va_W) := ⟨_, rfl⟩
  have hP : va_P D vwCl (([(a0, .inr (11, [.ref q_1, .null, .null, .null, .null, .null, .null, .null, .null, .null, .int 0]))] : va_W) ++ Z2) H := by rw [eZ2]; exact hP
  have hD : va_D A (([(a0, .inr (11, [.ref q_1, .null, .null, .null, .null, .null, .null, .null, .null, .null, .int 0]))] : va_W) ++ Z2) := by rw [eZ2]; exact hD
  refine W.widen (k := 6) (n := 551) (by omega) (by omega) ?_
  refine va_putF (D := D) (ci := 11) (v := .ref q_3) (ty := .object "OrphanWave$Ocean") (C := RX11) (T := TX11) (N := 11) hx hb hts hn_X11_init_X11 tyX11 tyX11_ok nmX11 hown hK hP hD hS 0 rfl rfl 1 (by decide) (hts _ hw_X11_init_f19) (fun _ h9 => h9) rfl hin rfl (by decide +kernel) rfl rfl (Nat.le_of_ble_eq_true rfl) dX11_init_23 (fun H locs hP hD hS => ?_)
  have hP : va_P D vwCl (([(a0, .inr (11, [.ref q_1, .ref q_3, .null, .null, .null, .null, .null, .null, .null, .null, .int 0]))] : va_W) ++ Z2) H := hP
  have hD : va_D A (([(a0, .inr (11, [.ref q_1, .ref q_3, .null, .null, .null, .null, .null, .null, .null, .null, .int 0]))] : va_W) ++ Z2) := hD
  refine lv_aload_n hx hb dX11_init_26 rfl (lv_at hl 0 rfl) ?_
  refine va_new (ci := 10) (fs := [.null, .null, .null, .null, .int 0, .int 0]) (C := RX10) (T := TX10) (N := 6) hx hb hts hn_X11_init_X10 tyX10 tyX10_ok hown (hts _ hw_X11_init_l23) (hts _ hw_X11_init_nX10) (hts _ hw_X11_init_iX10) hK hP hD hS hA rfl (fun j hj => by rcases (show j = 0 ∨ j = 1 ∨ j = 2 ∨ j = 3 ∨ j = 4 ∨ j = 5 by omega) with rfl | rfl | rfl | rfl | rfl | rfl <;> rfl) (Nat.le_of_ble_eq_true rfl) (Nat.le_of_ble_eq_true rfl) dX11_init_27 (fun q_5 H hP hD hS => ?_)
  have hP := rot_P hP
  have hD := rot_D hD
  have hP : va_P D vwCl (([(q_5, .inr (10, [.null, .null, .null, .null, .int 0, .int 0])), (a0, .inr (11, [.ref q_1, .ref q_3, .null, .null, .null, .null, .null, .null, .null, .null, .int 0]))] : va_W) ++ Z2) H := hP
  have hD : va_D A (([(q_5, .inr (10, [.null, .null, .null, .null, .int 0, .int 0])), (a0, .inr (11, [.ref q_1, .ref q_3, .null, .null, .null, .null, .null, .null, .null, .null, .int 0]))] : va_W) ++ Z2) := hD
  refine W.widen (k := 7) (n := 557) (by omega) (by omega) ?_
  refine lv_dup hx hb dX11_init_30 rfl ?_
  refine m_callINL (As := []) (rest := [.ref q_5, .ref a0]) (WR := (([(a0, .inr (11, [.ref q_1, .ref q_3, .null, .null, .null, .null, .null, .null, .null, .null, .int 0]))] : va_W) ++ Z2)) ⟨hx, hb, hml, hown, hts⟩ hX (ci_X10_init l D cA q_5) ⟨va_cnB 0 hts ggX11_init_X10_init rfl rfl rfl (hN _ nw_X11_25) (hts _ hw_X11_init_iX10) (by decide +kernel) ⟨Nat.le_of_ble_eq_true rfl, Nat.le_of_ble_eq_true rfl⟩, rfl, hts _ hw_X11_init_imX10_init⟩ hP hD hS hA rfl hl.1 rfl (Nat.le_of_ble_eq_true rfl) ⟨Nat.le_of_ble_eq_true rfl, Nat.le_of_ble_eq_true rfl⟩ dX11_init_31 (fun u_6 H locs hP hD hS => ?_)
  obtain ⟨Z3, eZ3⟩ : ∃ z : va_W, z = (Z2 : va_W) ++ (([(q_5, .inr (10, [.ref (u_6.1 0), .ref (u_6.1 1), .ref (u_6.1 2), .ref (u_6.1 3), .int 0, .int (1000 : Int32)])), ((u_6.1 0), .inl (cA 1, 60, .inl (fun _ => 0))), ((u_6.1 1), .inl (cA 5, 4, .inr (.inr (.inr (.inr (gro 4 (u_6.2 0))))))), ((u_6.1 2), .inl (cA 1, 4, .inl (fun _ => 0))), ((u_6.1 3), .inl (cA 1, 4, .inl (fun _ => 0)))] ++ grw 4 (u_6.2 0) (cA 1) 30 (fun _ _ => 0)) : va_W) := ⟨_, rfl⟩
  have hP : va_P D vwCl (([(a0, .inr (11, [.ref q_1, .ref q_3, .null, .null, .null, .null, .null, .null, .null, .null, .int 0]))] : va_W) ++ Z3) H := by rw [eZ3]; exact hP
  have hD : va_D A (([(a0, .inr (11, [.ref q_1, .ref q_3, .null, .null, .null, .null, .null, .null, .null, .null, .int 0]))] : va_W) ++ Z3) := by rw [eZ3]; exact hD
  refine W.widen (k := 15) (n := 749) (by omega) (by omega) ?_
  refine va_putF (D := D) (ci := 11) (v := .ref q_5) (ty := .object "OrphanWave$Trees") (C := RX11) (T := TX11) (N := 11) hx hb hts hn_X11_init_X11 tyX11 tyX11_ok nmX11 hown hK hP hD hS 0 rfl rfl 2 (by decide) (hts _ hw_X11_init_f26) (fun _ h9 => h9) rfl hin rfl (by decide +kernel) rfl rfl (Nat.le_of_ble_eq_true rfl) dX11_init_34 (fun H locs hP hD hS => ?_)
  have hP : va_P D vwCl (([(a0, .inr (11, [.ref q_1, .ref q_3, .ref q_5, .null, .null, .null, .null, .null, .null, .null, .int 0]))] : va_W) ++ Z3) H := hP
  have hD : va_D A (([(a0, .inr (11, [.ref q_1, .ref q_3, .ref q_5, .null, .null, .null, .null, .null, .null, .null, .int 0]))] : va_W) ++ Z3) := hD
  refine lv_aload_n hx hb dX11_init_37 rfl (lv_at hl 0 rfl) ?_
  refine va_new (ci := 2) (fs := [.null, .null, .null, .null, .int 0, .int 0]) (C := RX2) (T := TX2) (N := 6) hx hb hts hn_X11_init_X2 tyX2 tyX2_ok hown (hts _ hw_X11_init_l30) (hts _ hw_X11_init_nX2) (hts _ hw_X11_init_iX2) hK hP hD hS hA rfl (fun j hj => by rcases (show j = 0 ∨ j = 1 ∨ j = 2 ∨ j = 3 ∨ j = 4 ∨ j = 5 by omega) with rfl | rfl | rfl | rfl | rfl | rfl <;> rfl) (Nat.le_of_ble_eq_true rfl) (Nat.le_of_ble_eq_true rfl) dX11_init_38 (fun q_7 H hP hD hS => ?_)
  have hP := rot_P hP
  have hD := rot_D hD
  have hP : va_P D vwCl (([(q_7, .inr (2, [.null, .null, .null, .null, .int 0, .int 0])), (a0, .inr (11, [.ref q_1, .ref q_3, .ref q_5, .null, .null, .null, .null, .null, .null, .null, .int 0]))] : va_W) ++ Z3) H := hP
  have hD : va_D A (([(q_7, .inr (2, [.null, .null, .null, .null, .int 0, .int 0])), (a0, .inr (11, [.ref q_1, .ref q_3, .ref q_5, .null, .null, .null, .null, .null, .null, .null, .int 0]))] : va_W) ++ Z3) := hD
  refine W.widen (k := 16) (n := 755) (by omega) (by omega) ?_
  refine lv_dup hx hb dX11_init_41 rfl ?_
  refine m_callINL (As := []) (rest := [.ref q_7, .ref a0]) (WR := (([(a0, .inr (11, [.ref q_1, .ref q_3, .ref q_5, .null, .null, .null, .null, .null, .null, .null, .int 0]))] : va_W) ++ Z3)) ⟨hx, hb, hml, hown, hts⟩ hX (ci_X2_init l D cA q_7) ⟨va_cnB 0 hts ggX11_init_X2_init rfl rfl rfl (hN _ nw_X11_32) (hts _ hw_X11_init_iX2) (by decide +kernel) ⟨Nat.le_of_ble_eq_true rfl, Nat.le_of_ble_eq_true rfl⟩, rfl, hts _ hw_X11_init_imX2_init⟩ hP hD hS hA rfl hl.1 rfl (Nat.le_of_ble_eq_true rfl) ⟨Nat.le_of_ble_eq_true rfl, Nat.le_of_ble_eq_true rfl⟩ dX11_init_42 (fun u_8 H locs hP hD hS => ?_)
  obtain ⟨Z4, eZ4⟩ : ∃ z : va_W, z = (Z3 : va_W) ++ ([(q_7, .inr (2, [.ref (u_8.1 0), .ref (u_8.1 6), .ref (u_8.1 10), .ref (u_8.1 12), .int 0, .int 0])), ((u_8.1 0), .inr (0, [.ref (u_8.1 1), .ref (u_8.1 2), .ref (u_8.1 3), .ref (u_8.1 4), .ref (u_8.1 5), .int 0])), ((u_8.1 1), .inl (cA 1, 6, .inl (fun _ => 0))), ((u_8.1 2), .inl (cA 1, 6, .inl (fun _ => 0))), ((u_8.1 3), .inl (cA 1, 6, .inl (fun _ => 0))), ((u_8.1 4), .inl (cA 1, 6, .inl (fun _ => 0))), ((u_8.1 5), .inl (cA 1, 6, .inl (fun _ => 0))), ((u_8.1 6), .inr (6, [.ref (u_8.1 7), .ref (u_8.1 8), .ref (u_8.1 9), .int 0])), ((u_8.1 7), .inl (cA 1, 12, .inl (fun _ => 0))), ((u_8.1 8), .inl (cA 1, 12, .inl (fun _ => 0))), ((u_8.1 9), .inl (cA 1, 12, .inl (fun _ => 0))), ((u_8.1 10), .inr (3, [.ref (u_8.1 11), .int 0])), ((u_8.1 11), .inl (cA 1, 16, .inl (fun _ => 0))), ((u_8.1 12), .inl (cA 2, 5, .inr (.inl kc_X2_init_q39)))] : va_W) := ⟨_, rfl⟩
  have hP : va_P D vwCl (([(a0, .inr (11, [.ref q_1, .ref q_3, .ref q_5, .null, .null, .null, .null, .null, .null, .null, .int 0]))] : va_W) ++ Z4) H := by rw [eZ4]; exact hP
  have hD : va_D A (([(a0, .inr (11, [.ref q_1, .ref q_3, .ref q_5, .null, .null, .null, .null, .null, .null, .null, .int 0]))] : va_W) ++ Z4) := by rw [eZ4]; exact hD
  refine W.widen (k := 29) (n := 854) (by omega) (by omega) ?_
  refine va_putF (D := D) (ci := 11) (v := .ref q_7) (ty := .object "OrphanWave$Findings") (C := RX11) (T := TX11) (N := 11) hx hb hts hn_X11_init_X11 tyX11 tyX11_ok nmX11 hown hK hP hD hS 0 rfl rfl 3 (by decide) (hts _ hw_X11_init_f33) (fun _ h9 => h9) rfl hin rfl (by decide +kernel) rfl rfl (Nat.le_of_ble_eq_true rfl) dX11_init_45 (fun H locs hP hD hS => ?_)
  have hP : va_P D vwCl (([(a0, .inr (11, [.ref q_1, .ref q_3, .ref q_5, .ref q_7, .null, .null, .null, .null, .null, .null, .int 0]))] : va_W) ++ Z4) H := hP
  have hD : va_D A (([(a0, .inr (11, [.ref q_1, .ref q_3, .ref q_5, .ref q_7, .null, .null, .null, .null, .null, .null, .int 0]))] : va_W) ++ Z4) := hD
  refine lv_aload_n hx hb dX11_init_48 rfl (lv_at hl 0 rfl) ?_
  refine lv_iconst (v := (2 : Int32)) hx hb dX11_init_49 (by decide) ?_
  refine m_newq hx hb hown (hts _ hw_X11_init_l30a) hX.2.1 hK hP hD hS hA (by decide) (N' := 2) (by decide) (by decide) (Nat.le_of_ble_eq_true rfl) (Nat.le_of_ble_eq_true rfl) dX11_init_50 (fun q_9 H hP hD hS => ?_)
  have hP := rot_P hP
  have hD := rot_D hD
  have hP : va_P D vwCl (([(q_9, .inl (cA 4, 2, .inr (.inr (.inr (.inr (fun _ => none)))))), (a0, .inr (11, [.ref q_1, .ref q_3, .ref q_5, .ref q_7, .null, .null, .null, .null, .null, .null, .int 0]))] : va_W) ++ Z4) H := hP
  have hD : va_D A (([(q_9, .inl (cA 4, 2, .inr (.inr (.inr (.inr (fun _ => none)))))), (a0, .inr (11, [.ref q_1, .ref q_3, .ref q_5, .ref q_7, .null, .null, .null, .null, .null, .null, .int 0]))] : va_W) ++ Z4) := hD
  refine W.widen (k := 30) (n := 856) (by omega) (by omega) ?_
  refine va_putF (D := D) (ci := 11) (v := .ref q_9) (ty := .array (.object "OrphanWave$Findings")) (C := RX11) (T := TX11) (N := 11) hx hb hts hn_X11_init_X11 tyX11 tyX11_ok nmX11 hown hK hP hD hS 1 rfl rfl 4 (by decide) (hts _ hw_X11_init_f37) (fun _ h9 => h9) rfl hin rfl (by decide +kernel) rfl rfl (Nat.le_of_ble_eq_true rfl) dX11_init_53 (fun H locs hP hD hS => ?_)
  have hP : va_P D vwCl (([(q_9, .inl (cA 4, 2, .inr (.inr (.inr (.inr (fun _ => none)))))), (a0, .inr (11, [.ref q_1, .ref q_3, .ref q_5, .ref q_7, .ref q_9, .null, .null, .null, .null, .null, .int 0]))] : va_W) ++ Z4) H := hP
  have hD : va_D A (([(q_9, .inl (cA 4, 2, .inr (.inr (.inr (.inr (fun _ => none)))))), (a0, .inr (11, [.ref q_1, .ref q_3, .ref q_5, .ref q_7, .ref q_9, .null, .null, .null, .null, .null, .int 0]))] : va_W) ++ Z4) := hD
  refine lv_aload_n hx hb dX11_init_56 rfl (lv_at hl 0 rfl) ?_
  refine va_new (ci := 5) (fs := [.null, .null, .null]) (C := RX5) (T := TX5) (N := 3) hx hb hts hn_X11_init_X5 tyX5 tyX5_ok hown (hts _ hw_X11_init_l41) (hts _ hw_X11_init_nX5) (hts _ hw_X11_init_iX5) hK hP hD hS hA rfl (fun j hj => by rcases (show j = 0 ∨ j = 1 ∨ j = 2 by omega) with rfl | rfl | rfl <;> rfl) (Nat.le_of_ble_eq_true rfl) (Nat.le_of_ble_eq_true rfl) dX11_init_57 (fun q_10 H hP hD hS => ?_)
  have hP := rot_P hP
  have hD := rot_D hD
  have hP : va_P D vwCl (([(q_10, .inr (5, [.null, .null, .null])), (q_9, .inl (cA 4, 2, .inr (.inr (.inr (.inr (fun _ => none)))))), (a0, .inr (11, [.ref q_1, .ref q_3, .ref q_5, .ref q_7, .ref q_9, .null, .null, .null, .null, .null, .int 0]))] : va_W) ++ Z4) H := hP
  have hD : va_D A (([(q_10, .inr (5, [.null, .null, .null])), (q_9, .inl (cA 4, 2, .inr (.inr (.inr (.inr (fun _ => none)))))), (a0, .inr (11, [.ref q_1, .ref q_3, .ref q_5, .ref q_7, .ref q_9, .null, .null, .null, .null, .null, .int 0]))] : va_W) ++ Z4) := hD
  refine W.widen (k := 31) (n := 859) (by omega) (by omega) ?_
  refine lv_dup hx hb dX11_init_60 rfl ?_
  refine lv_aload_n hx hb dX11_init_61 rfl (lv_at hl 0 rfl) ?_
  refine va_get (D := D) (ci := 11) (v := .ref q_3) (C := RX11) (T := TX11) (N := 11) hx hb hts hn_X11_init_X11 hown hK hP 2 rfl rfl 1 (by decide) (hts _ hw_X11_init_f19) (fun _ h9 => h9) rfl dX11_init_62 ?_
  refine lv_aload_n hx hb dX11_init_65 rfl (lv_at hl 0 rfl) ?_
  refine va_get (D := D) (ci := 11) (v := .ref q_7) (C := RX11) (T := TX11) (N := 11) hx hb hts hn_X11_init_X11 hown hK hP 2 rfl rfl 3 (by decide) (hts _ hw_X11_init_f33) (fun _ h9 => h9) rfl dX11_init_66 ?_
  obtain ⟨i9, hi9⟩ := List.getElem?_of_mem (show (q_7, .inr (2, [.ref (u_8.1 0), .ref (u_8.1 6), .ref (u_8.1 10), .ref (u_8.1 12), .int 0, .int 0])) ∈ (([(q_10, .inr (5, [.null, .null, .null])), (q_9, .inl (cA 4, 2, .inr (.inr (.inr (.inr (fun _ => none)))))), (a0, .inr (11, [.ref q_1, .ref q_3, .ref q_5, .ref q_7, .ref q_9, .null, .null, .null, .null, .null, .int 0]))] : va_W) ++ Z4) from List.mem_append_right _ (by rw [eZ4]; exact List.mem_append_right _ (List.mem_of_getElem? (i := 0) rfl)))
  refine va_getN (D := D) (ci := 2) (v := .ref (u_8.1 0)) (C := RX2) (T := TX2) (N := 6) hx hb hts hn_X11_init_X2 hown hK hP i9 hi9 rfl 0 (by decide) (va_Nw.use rfl (hN _ nw_X11_43)) (fun _ h9 => h9) rfl dX11_init_69 ?_
  refine m_callIL (As := [.ref q_3, .ref (u_8.1 0)]) (rest := [.ref q_10, .ref a0]) (WR := (([(q_9, .inl (cA 4, 2, .inr (.inr (.inr (.inr (fun _ => none)))))), (a0, .inr (11, [.ref q_1, .ref q_3, .ref q_5, .ref q_7, .ref q_9, .null, .null, .null, .null, .null, .int 0]))] : va_W) ++ Z4)) ⟨hx, hb, hml, hown, hts⟩ hX (ci_X5_init l D cA q_10 q_3 (u_8.1 0)) (cwI 2 hts gX11_init_X5_init rfl rfl rfl (hts _ hw_X11_init_iX5) (hts _ hw_X11_init_m47) (hts _ hw_X11_init_imX5_init) rfl (by decide +kernel) ⟨Nat.le_of_ble_eq_true rfl, Nat.le_of_ble_eq_true rfl⟩) hP hD hS hA rfl hl.1 rfl (Nat.le_of_ble_eq_true rfl) ⟨Nat.le_of_ble_eq_true rfl, Nat.le_of_ble_eq_true rfl⟩ dX11_init_72 (fun u_11 H locs hP hD hS => ?_)
  obtain ⟨Z5, eZ5⟩ : ∃ z : va_W, z = (Z4 : va_W) ++ (([(q_10, .inr (5, [.ref q_3, .ref (u_8.1 0), .ref (u_11.1 0)])), ((u_11.1 0), .inl (cA 5, 6, .inr (.inr (.inr (.inr (gro 6 (u_11.2 0)))))))] ++ grw 6 (u_11.2 0) (cA 1) 48 (fun _ _ => 0)) : va_W) := ⟨_, rfl⟩
  have hP : va_P D vwCl (([(q_9, .inl (cA 4, 2, .inr (.inr (.inr (.inr (fun _ => none)))))), (a0, .inr (11, [.ref q_1, .ref q_3, .ref q_5, .ref q_7, .ref q_9, .null, .null, .null, .null, .null, .int 0]))] : va_W) ++ Z5) H := by rw [eZ5]; exact hP
  have hD : va_D A (([(q_9, .inl (cA 4, 2, .inr (.inr (.inr (.inr (fun _ => none)))))), (a0, .inr (11, [.ref q_1, .ref q_3, .ref q_5, .ref q_7, .ref q_9, .null, .null, .null, .null, .null, .int 0]))] : va_W) ++ Z5) := by rw [eZ5]; exact hD
  refine W.widen (k := 38) (n := 1153) (by omega) (by omega) ?_
  refine va_putF (D := D) (ci := 11) (v := .ref q_10) (ty := .object "OrphanWave$Search") (C := RX11) (T := TX11) (N := 11) hx hb hts hn_X11_init_X11 tyX11 tyX11_ok nmX11 hown hK hP hD hS 1 rfl rfl 5 (by decide) (hts _ hw_X11_init_f50) (fun _ h9 => h9) rfl hin rfl (by decide +kernel) rfl rfl (Nat.le_of_ble_eq_true rfl) dX11_init_75 (fun H locs hP hD hS => ?_)
  have hP : va_P D vwCl (([(q_9, .inl (cA 4, 2, .inr (.inr (.inr (.inr (fun _ => none)))))), (a0, .inr (11, [.ref q_1, .ref q_3, .ref q_5, .ref q_7, .ref q_9, .ref q_10, .null, .null, .null, .null, .int 0]))] : va_W) ++ Z5) H := hP
  have hD : va_D A (([(q_9, .inl (cA 4, 2, .inr (.inr (.inr (.inr (fun _ => none)))))), (a0, .inr (11, [.ref q_1, .ref q_3, .ref q_5, .ref q_7, .ref q_9, .ref q_10, .null, .null, .null, .null, .int 0]))] : va_W) ++ Z5) := hD
  refine lv_aload_n hx hb dX11_init_78 rfl (lv_at hl 0 rfl) ?_
  refine va_new (ci := 8) (fs := [.null, .null, .null]) (C := RX8) (T := TX8) (N := 3) hx hb hts hn_X11_init_X8 tyX8 tyX8_ok hown (hts _ hw_X11_init_l54) (hts _ hw_X11_init_nX8) (hts _ hw_X11_init_iX8) hK hP hD hS hA rfl (fun j hj => by rcases (show j = 0 ∨ j = 1 ∨ j = 2 by omega) with rfl | rfl | rfl <;> rfl) (Nat.le_of_ble_eq_true rfl) (Nat.le_of_ble_eq_true rfl) dX11_init_79 (fun q_12 H hP hD hS => ?_)
  have hP := rot_P hP
  have hD := rot_D hD
  have hP : va_P D vwCl (([(q_12, .inr (8, [.null, .null, .null])), (q_9, .inl (cA 4, 2, .inr (.inr (.inr (.inr (fun _ => none)))))), (a0, .inr (11, [.ref q_1, .ref q_3, .ref q_5, .ref q_7, .ref q_9, .ref q_10, .null, .null, .null, .null, .int 0]))] : va_W) ++ Z5) H := hP
  have hD : va_D A (([(q_12, .inr (8, [.null, .null, .null])), (q_9, .inl (cA 4, 2, .inr (.inr (.inr (.inr (fun _ => none)))))), (a0, .inr (11, [.ref q_1, .ref q_3, .ref q_5, .ref q_7, .ref q_9, .ref q_10, .null, .null, .null, .null, .int 0]))] : va_W) ++ Z5) := hD
  refine W.widen (k := 39) (n := 1156) (by omega) (by omega) ?_
  refine lv_dup hx hb dX11_init_82 rfl ?_
  refine lv_aload_n hx hb dX11_init_83 rfl (lv_at hl 0 rfl) ?_
  refine va_get (D := D) (ci := 11) (v := .ref q_7) (C := RX11) (T := TX11) (N := 11) hx hb hts hn_X11_init_X11 hown hK hP 2 rfl rfl 3 (by decide) (hts _ hw_X11_init_f33) (fun _ h9 => h9) rfl dX11_init_84 ?_
  refine m_callIL (As := [.ref q_7]) (rest := [.ref q_12, .ref a0]) (WR := (([(q_9, .inl (cA 4, 2, .inr (.inr (.inr (.inr (fun _ => none)))))), (a0, .inr (11, [.ref q_1, .ref q_3, .ref q_5, .ref q_7, .ref q_9, .ref q_10, .null, .null, .null, .null, .int 0]))] : va_W) ++ Z5)) ⟨hx, hb, hml, hown, hts⟩ hX (ci_X8_init l D cA q_12 q_7) (cwI 1 hts gX11_init_X8_init rfl rfl rfl (hts _ hw_X11_init_iX8) (hts _ hw_X11_init_m56) (hts _ hw_X11_init_imX8_init) rfl (by decide +kernel) ⟨Nat.le_of_ble_eq_true rfl, Nat.le_of_ble_eq_true rfl⟩) hP hD hS hA rfl hl.1 rfl (Nat.le_of_ble_eq_true rfl) ⟨Nat.le_of_ble_eq_true rfl, Nat.le_of_ble_eq_true rfl⟩ dX11_init_87 (fun u_13 H locs hP hD hS => ?_)
  obtain ⟨Z6, eZ6⟩ : ∃ z : va_W, z = (Z5 : va_W) ++ (([(q_12, .inr (8, [.ref q_7, .ref (u_13.1 0), .ref (u_13.1 1)])), ((u_13.1 0), .inl (cA 5, 5, .inr (.inr (.inr (.inr (gro 5 (u_13.2 0))))))), ((u_13.1 1), .inl (cA 2, 5, .inr (.inl (fun _ => 0))))] ++ grw 5 (u_13.2 0) (cA 1) 6 kc_X8_init_r8) : va_W) := ⟨_, rfl⟩
  have hP : va_P D vwCl (([(q_9, .inl (cA 4, 2, .inr (.inr (.inr (.inr (fun _ => none)))))), (a0, .inr (11, [.ref q_1, .ref q_3, .ref q_5, .ref q_7, .ref q_9, .ref q_10, .null, .null, .null, .null, .int 0]))] : va_W) ++ Z6) H := by rw [eZ6]; exact hP
  have hD : va_D A (([(q_9, .inl (cA 4, 2, .inr (.inr (.inr (.inr (fun _ => none)))))), (a0, .inr (11, [.ref q_1, .ref q_3, .ref q_5, .ref q_7, .ref q_9, .ref q_10, .null, .null, .null, .null, .int 0]))] : va_W) ++ Z6) := by rw [eZ6]; exact hD
  refine W.widen (k := 46) (n := 1196) (by omega) (by omega) ?_
  refine va_putF (D := D) (ci := 11) (v := .ref q_12) (ty := .object "OrphanWave$Stories") (C := RX11) (T := TX11) (N := 11) hx hb hts hn_X11_init_X11 tyX11 tyX11_ok nmX11 hown hK hP hD hS 1 rfl rfl 6 (by decide) (hts _ hw_X11_init_f59) (fun _ h9 => h9) rfl hin rfl (by decide +kernel) rfl rfl (Nat.le_of_ble_eq_true rfl) dX11_init_90 (fun H locs hP hD hS => ?_)
  have hP : va_P D vwCl (([(q_9, .inl (cA 4, 2, .inr (.inr (.inr (.inr (fun _ => none)))))), (a0, .inr (11, [.ref q_1, .ref q_3, .ref q_5, .ref q_7, .ref q_9, .ref q_10, .ref q_12, .null, .null, .null, .int 0]))] : va_W) ++ Z6) H := hP
  have hD : va_D A (([(q_9, .inl (cA 4, 2, .inr (.inr (.inr (.inr (fun _ => none)))))), (a0, .inr (11, [.ref q_1, .ref q_3, .ref q_5, .ref q_7, .ref q_9, .ref q_10, .ref q_12, .null, .null, .null, .int 0]))] : va_W) ++ Z6) := hD
  refine lv_aload_n hx hb dX11_init_93 rfl (lv_at hl 0 rfl) ?_
  refine va_new (ci := 7) (fs := [.null, .long 0]) (C := RX7) (T := TX7) (N := 2) hx hb hts hn_X11_init_X7 tyX7 tyX7_ok hown (hts _ hw_X11_init_l63) (hts _ hw_X11_init_nX7) (hts _ hw_X11_init_iX7) hK hP hD hS hA rfl (fun j hj => by rcases (show j = 0 ∨ j = 1 by omega) with rfl | rfl <;> rfl) (Nat.le_of_ble_eq_true rfl) (Nat.le_of_ble_eq_true rfl) dX11_init_94 (fun q_14 H hP hD hS => ?_)
  have hP := rot_P hP
  have hD := rot_D hD
  have hP : va_P D vwCl (([(q_14, .inr (7, [.null, .long 0])), (q_9, .inl (cA 4, 2, .inr (.inr (.inr (.inr (fun _ => none)))))), (a0, .inr (11, [.ref q_1, .ref q_3, .ref q_5, .ref q_7, .ref q_9, .ref q_10, .ref q_12, .null, .null, .null, .int 0]))] : va_W) ++ Z6) H := hP
  have hD : va_D A (([(q_14, .inr (7, [.null, .long 0])), (q_9, .inl (cA 4, 2, .inr (.inr (.inr (.inr (fun _ => none)))))), (a0, .inr (11, [.ref q_1, .ref q_3, .ref q_5, .ref q_7, .ref q_9, .ref q_10, .ref q_12, .null, .null, .null, .int 0]))] : va_W) ++ Z6) := hD
  refine W.widen (k := 47) (n := 1198) (by omega) (by omega) ?_
  refine lv_dup hx hb dX11_init_97 rfl ?_
  refine lv_aload_n hx hb dX11_init_98 rfl (lv_at hl 0 rfl) ?_
  refine va_get (D := D) (ci := 11) (v := .ref q_7) (C := RX11) (T := TX11) (N := 11) hx hb hts hn_X11_init_X11 hown hK hP 2 rfl rfl 3 (by decide) (hts _ hw_X11_init_f33) (fun _ h9 => h9) rfl dX11_init_99 ?_
  refine m_callIL (As := [.ref q_7]) (rest := [.ref q_14, .ref a0]) (WR := (([(q_9, .inl (cA 4, 2, .inr (.inr (.inr (.inr (fun _ => none)))))), (a0, .inr (11, [.ref q_1, .ref q_3, .ref q_5, .ref q_7, .ref q_9, .ref q_10, .ref q_12, .null, .null, .null, .int 0]))] : va_W) ++ Z6)) ⟨hx, hb, hml, hown, hts⟩ hX (ci_X7_init l D cA q_14 q_7) (cwI 1 hts gX11_init_X7_init rfl rfl rfl (hts _ hw_X11_init_iX7) (hts _ hw_X11_init_m65) (hts _ hw_X11_init_imX7_init) rfl (by decide +kernel) ⟨Nat.le_of_ble_eq_true rfl, Nat.le_of_ble_eq_true rfl⟩) hP hD hS hA rfl hl.1 rfl (Nat.le_of_ble_eq_true rfl) ⟨Nat.le_of_ble_eq_true rfl, Nat.le_of_ble_eq_true rfl⟩ dX11_init_102 (fun u_15 H locs hP hD hS => ?_)
  obtain ⟨Z7, eZ7⟩ : ∃ z : va_W, z = (Z6 : va_W) ++ ([(q_14, .inr (7, [.ref q_7, .long 0]))] : va_W) := ⟨_, rfl⟩
  have hP : va_P D vwCl (([(q_9, .inl (cA 4, 2, .inr (.inr (.inr (.inr (fun _ => none)))))), (a0, .inr (11, [.ref q_1, .ref q_3, .ref q_5, .ref q_7, .ref q_9, .ref q_10, .ref q_12, .null, .null, .null, .int 0]))] : va_W) ++ Z7) H := by rw [eZ7]; exact hP
  have hD : va_D A (([(q_9, .inl (cA 4, 2, .inr (.inr (.inr (.inr (fun _ => none)))))), (a0, .inr (11, [.ref q_1, .ref q_3, .ref q_5, .ref q_7, .ref q_9, .ref q_10, .ref q_12, .null, .null, .null, .int 0]))] : va_W) ++ Z7) := by rw [eZ7]; exact hD
  refine W.widen (k := 47) (n := 1198) (by omega) (by omega) ?_
  refine va_putF (D := D) (ci := 11) (v := .ref q_14) (ty := .object "OrphanWave$Signs") (C := RX11) (T := TX11) (N := 11) hx hb hts hn_X11_init_X11 tyX11 tyX11_ok nmX11 hown hK hP hD hS 1 rfl rfl 7 (by decide) (hts _ hw_X11_init_f66) (fun _ h9 => h9) rfl hin rfl (by decide +kernel) rfl rfl (Nat.le_of_ble_eq_true rfl) dX11_init_105 (fun H locs hP hD hS => ?_)
  have hP : va_P D vwCl (([(q_9, .inl (cA 4, 2, .inr (.inr (.inr (.inr (fun _ => none)))))), (a0, .inr (11, [.ref q_1, .ref q_3, .ref q_5, .ref q_7, .ref q_9, .ref q_10, .ref q_12, .ref q_14, .null, .null, .int 0]))] : va_W) ++ Z7) H := hP
  have hD : va_D A (([(q_9, .inl (cA 4, 2, .inr (.inr (.inr (.inr (fun _ => none)))))), (a0, .inr (11, [.ref q_1, .ref q_3, .ref q_5, .ref q_7, .ref q_9, .ref q_10, .ref q_12, .ref q_14, .null, .null, .int 0]))] : va_W) ++ Z7) := hD
  refine lv_aload_n hx hb dX11_init_108 rfl (lv_at hl 0 rfl) ?_
  refine va_new (ci := 1) (fs := [.null, .null, .int 0]) (C := RX1) (T := TX1) (N := 3) hx hb hts hn_X11_init_X1 tyX1 tyX1_ok hown (hts _ hw_X11_init_l70) (hts _ hw_X11_init_nX1) (hts _ hw_X11_init_iX1) hK hP hD hS hA rfl (fun j hj => by rcases (show j = 0 ∨ j = 1 ∨ j = 2 by omega) with rfl | rfl | rfl <;> rfl) (Nat.le_of_ble_eq_true rfl) (Nat.le_of_ble_eq_true rfl) dX11_init_109 (fun q_16 H hP hD hS => ?_)
  have hP := rot_P hP
  have hD := rot_D hD
  have hP : va_P D vwCl (([(q_16, .inr (1, [.null, .null, .int 0])), (q_9, .inl (cA 4, 2, .inr (.inr (.inr (.inr (fun _ => none)))))), (a0, .inr (11, [.ref q_1, .ref q_3, .ref q_5, .ref q_7, .ref q_9, .ref q_10, .ref q_12, .ref q_14, .null, .null, .int 0]))] : va_W) ++ Z7) H := hP
  have hD : va_D A (([(q_16, .inr (1, [.null, .null, .int 0])), (q_9, .inl (cA 4, 2, .inr (.inr (.inr (.inr (fun _ => none)))))), (a0, .inr (11, [.ref q_1, .ref q_3, .ref q_5, .ref q_7, .ref q_9, .ref q_10, .ref q_12, .ref q_14, .null, .null, .int 0]))] : va_W) ++ Z7) := hD
  refine W.widen (k := 48) (n := 1201) (by omega) (by omega) ?_
  refine lv_dup hx hb dX11_init_112 rfl ?_
  refine m_callINL (As := []) (rest := [.ref q_16, .ref a0]) (WR := (([(q_9, .inl (cA 4, 2, .inr (.inr (.inr (.inr (fun _ => none)))))), (a0, .inr (11, [.ref q_1, .ref q_3, .ref q_5, .ref q_7, .ref q_9, .ref q_10, .ref q_12, .ref q_14, .null, .null, .int 0]))] : va_W) ++ Z7)) ⟨hx, hb, hml, hown, hts⟩ hX (ci_X1_init l D cA q_16) ⟨va_cnB 0 hts ggX11_init_X1_init rfl rfl rfl (hN _ nw_X11_72) (hts _ hw_X11_init_iX1) (by decide +kernel) ⟨Nat.le_of_ble_eq_true rfl, Nat.le_of_ble_eq_true rfl⟩, rfl, hts _ hw_X11_init_imX1_init⟩ hP hD hS hA rfl hl.1 rfl (Nat.le_of_ble_eq_true rfl) ⟨Nat.le_of_ble_eq_true rfl, Nat.le_of_ble_eq_true rfl⟩ dX11_init_113 (fun u_17 H locs hP hD hS => ?_)
  obtain ⟨Z8, eZ8⟩ : ∃ z : va_W, z = (Z7 : va_W) ++ (([(q_16, .inr (1, [.ref (u_17.1 0), .ref (u_17.1 1), .int 0])), ((u_17.1 0), .inl (cA 5, 8, .inr (.inr (.inr (.inr (gro 8 (u_17.2 0))))))), ((u_17.1 1), .inl (cA 1, 8, .inl (fun _ => 0)))] ++ grw 8 (u_17.2 0) (cA 1) 13 (fun _ _ => 0)) : va_W) := ⟨_, rfl⟩
  have hP : va_P D vwCl (([(q_9, .inl (cA 4, 2, .inr (.inr (.inr (.inr (fun _ => none)))))), (a0, .inr (11, [.ref q_1, .ref q_3, .ref q_5, .ref q_7, .ref q_9, .ref q_10, .ref q_12, .ref q_14, .null, .null, .int 0]))] : va_W) ++ Z8) H := by rw [eZ8]; exact hP
  have hD : va_D A (([(q_9, .inl (cA 4, 2, .inr (.inr (.inr (.inr (fun _ => none)))))), (a0, .inr (11, [.ref q_1, .ref q_3, .ref q_5, .ref q_7, .ref q_9, .ref q_10, .ref q_12, .ref q_14, .null, .null, .int 0]))] : va_W) ++ Z8) := by rw [eZ8]; exact hD
  refine W.widen (k := 58) (n := 1321) (by omega) (by omega) ?_
  refine va_put (D := D) (ci := 11) (v := .ref q_16) (ty := .object "OrphanWave$Calendar") (C := RX11) (T := TX11) (N := 11) hx hb hts hn_X11_init_X11 tyX11 tyX11_ok nmX11 hown hK hP hD hS 1 rfl rfl 8 (by decide) (hts _ hw_X11_init_f73) (fun _ h9 => h9) rfl (by decide +kernel) rfl rfl (Nat.le_of_ble_eq_true rfl) dX11_init_116 (fun H locs hP hD hS => ?_)
  have hP : va_P D vwCl (([(q_9, .inl (cA 4, 2, .inr (.inr (.inr (.inr (fun _ => none)))))), (a0, .inr (11, [.ref q_1, .ref q_3, .ref q_5, .ref q_7, .ref q_9, .ref q_10, .ref q_12, .ref q_14, .ref q_16, .null, .int 0]))] : va_W) ++ Z8) H := hP
  have hD : va_D A (([(q_9, .inl (cA 4, 2, .inr (.inr (.inr (.inr (fun _ => none)))))), (a0, .inr (11, [.ref q_1, .ref q_3, .ref q_5, .ref q_7, .ref q_9, .ref q_10, .ref q_12, .ref q_14, .ref q_16, .null, .int 0]))] : va_W) ++ Z8) := hD
  refine lv_aload_n hx hb dX11_init_119 rfl (lv_at hl 0 rfl) ?_
  refine va_new (ci := 1) (fs := [.null, .null, .int 0]) (C := RX1) (T := TX1) (N := 3) hx hb hts hn_X11_init_X1 tyX1 tyX1_ok hown (hts _ hw_X11_init_l70) (hts _ hw_X11_init_nX1) (hts _ hw_X11_init_iX1) hK hP hD hS hA rfl (fun j hj => by rcases (show j = 0 ∨ j = 1 ∨ j = 2 by omega) with rfl | rfl | rfl <;> rfl) (Nat.le_of_ble_eq_true rfl) (Nat.le_of_ble_eq_true rfl) dX11_init_120 (fun q_18 H hP hD hS => ?_)
  have hP := rot_P hP
  have hD := rot_D hD
  have hP : va_P D vwCl (([(q_18, .inr (1, [.null, .null, .int 0])), (q_9, .inl (cA 4, 2, .inr (.inr (.inr (.inr (fun _ => none)))))), (a0, .inr (11, [.ref q_1, .ref q_3, .ref q_5, .ref q_7, .ref q_9, .ref q_10, .ref q_12, .ref q_14, .ref q_16, .null, .int 0]))] : va_W) ++ Z8) H := hP
  have hD : va_D A (([(q_18, .inr (1, [.null, .null, .int 0])), (q_9, .inl (cA 4, 2, .inr (.inr (.inr (.inr (fun _ => none)))))), (a0, .inr (11, [.ref q_1, .ref q_3, .ref q_5, .ref q_7, .ref q_9, .ref q_10, .ref q_12, .ref q_14, .ref q_16, .null, .int 0]))] : va_W) ++ Z8) := hD
  refine W.widen (k := 59) (n := 1324) (by omega) (by omega) ?_
  refine lv_dup hx hb dX11_init_123 rfl ?_
  refine m_callINL (As := []) (rest := [.ref q_18, .ref a0]) (WR := (([(q_9, .inl (cA 4, 2, .inr (.inr (.inr (.inr (fun _ => none)))))), (a0, .inr (11, [.ref q_1, .ref q_3, .ref q_5, .ref q_7, .ref q_9, .ref q_10, .ref q_12, .ref q_14, .ref q_16, .null, .int 0]))] : va_W) ++ Z8)) ⟨hx, hb, hml, hown, hts⟩ hX (ci_X1_init l D cA q_18) ⟨va_cnB 0 hts ggX11_init_X1_init rfl rfl rfl (hN _ nw_X11_72) (hts _ hw_X11_init_iX1) (by decide +kernel) ⟨Nat.le_of_ble_eq_true rfl, Nat.le_of_ble_eq_true rfl⟩, rfl, hts _ hw_X11_init_imX1_init⟩ hP hD hS hA rfl hl.1 rfl (Nat.le_of_ble_eq_true rfl) ⟨Nat.le_of_ble_eq_true rfl, Nat.le_of_ble_eq_true rfl⟩ dX11_init_124 (fun u_19 H locs hP hD hS => ?_)
  obtain ⟨Z9, eZ9⟩ : ∃ z : va_W, z = (Z8 : va_W) ++ (([(q_18, .inr (1, [.ref (u_19.1 0), .ref (u_19.1 1), .int 0])), ((u_19.1 0), .inl (cA 5, 8, .inr (.inr (.inr (.inr (gro 8 (u_19.2 0))))))), ((u_19.1 1), .inl (cA 1, 8, .inl (fun _ => 0)))] ++ grw 8 (u_19.2 0) (cA 1) 13 (fun _ _ => 0)) : va_W) := ⟨_, rfl⟩
  have hP : va_P D vwCl (([(q_9, .inl (cA 4, 2, .inr (.inr (.inr (.inr (fun _ => none)))))), (a0, .inr (11, [.ref q_1, .ref q_3, .ref q_5, .ref q_7, .ref q_9, .ref q_10, .ref q_12, .ref q_14, .ref q_16, .null, .int 0]))] : va_W) ++ Z9) H := by rw [eZ9]; exact hP
  have hD : va_D A (([(q_9, .inl (cA 4, 2, .inr (.inr (.inr (.inr (fun _ => none)))))), (a0, .inr (11, [.ref q_1, .ref q_3, .ref q_5, .ref q_7, .ref q_9, .ref q_10, .ref q_12, .ref q_14, .ref q_16, .null, .int 0]))] : va_W) ++ Z9) := by rw [eZ9]; exact hD
  refine W.widen (k := 69) (n := 1444) (by omega) (by omega) ?_
  refine va_put (D := D) (ci := 11) (v := .ref q_18) (ty := .object "OrphanWave$Calendar") (C := RX11) (T := TX11) (N := 11) hx hb hts hn_X11_init_X11 tyX11 tyX11_ok nmX11 hown hK hP hD hS 1 rfl rfl 9 (by decide) (hts _ hw_X11_init_f77) (fun _ h9 => h9) rfl (by decide +kernel) rfl rfl (Nat.le_of_ble_eq_true rfl) dX11_init_127 (fun H locs hP hD hS => ?_)
  have hP : va_P D vwCl (([(q_9, .inl (cA 4, 2, .inr (.inr (.inr (.inr (fun _ => none)))))), (a0, .inr (11, [.ref q_1, .ref q_3, .ref q_5, .ref q_7, .ref q_9, .ref q_10, .ref q_12, .ref q_14, .ref q_16, .ref q_18, .int 0]))] : va_W) ++ Z9) H := hP
  have hD : va_D A (([(q_9, .inl (cA 4, 2, .inr (.inr (.inr (.inr (fun _ => none)))))), (a0, .inr (11, [.ref q_1, .ref q_3, .ref q_5, .ref q_7, .ref q_9, .ref q_10, .ref q_12, .ref q_14, .ref q_16, .ref q_18, .int 0]))] : va_W) ++ Z9) := hD
  refine lv_aload_n hx hb dX11_init_130 rfl (lv_at hl 0 rfl) ?_
  refine lv_sipush (v := (2000 : Int32)) hx hb dX11_init_131 (by decide) ?_
  refine va_put (D := D) (ci := 11) (v := .int (2000 : Int32)) (ty := .int) (C := RX11) (T := TX11) (N := 11) hx hb hts hn_X11_init_X11 tyX11 tyX11_ok nmX11 hown hK hP hD hS 1 rfl rfl 10 (by decide) (hts _ hw_X11_init_f80) (fun _ h9 => h9) rfl (by decide +kernel) rfl rfl (Nat.le_of_ble_eq_true rfl) dX11_init_134 (fun H locs hP hD hS => ?_)
  have hP : va_P D vwCl (([(q_9, .inl (cA 4, 2, .inr (.inr (.inr (.inr (fun _ => none)))))), (a0, .inr (11, [.ref q_1, .ref q_3, .ref q_5, .ref q_7, .ref q_9, .ref q_10, .ref q_12, .ref q_14, .ref q_16, .ref q_18, .int (2000 : Int32)]))] : va_W) ++ Z9) H := hP
  have hD : va_D A (([(q_9, .inl (cA 4, 2, .inr (.inr (.inr (.inr (fun _ => none)))))), (a0, .inr (11, [.ref q_1, .ref q_3, .ref q_5, .ref q_7, .ref q_9, .ref q_10, .ref q_12, .ref q_14, .ref q_16, .ref q_18, .int (2000 : Int32)]))] : va_W) ++ Z9) := hD
  refine lv_iconst (v := (0 : Int32)) hx hb dX11_init_137 (by decide) ?_
  refine lv_istore_n (lv' := [(1, .int (0 : Int32)), (0, .ref a0)]) hx hb dX11_init_138 rfl hl (by decide) rfl (fun ls hl => ?_)
  refine lv_iload_n hx hb dX11_init_139 rfl (lv_at hl 0 rfl) ?_
  refine lv_iconst (v := (2 : Int32)) hx hb dX11_init_140 (by decide) ?_
  refine lv_icmp_ge (tgt := 163) hx hb dX11_init_141 (by decide) (fun c_20 => ?_) (fun c_20 => ?_)
  · exact absurd c_20 (by decide)
  refine lv_aload_n hx hb dX11_init_144 rfl (lv_at hl 1 rfl) ?_
  refine va_get (D := D) (ci := 11) (v := .ref q_9) (C := RX11) (T := TX11) (N := 11) hx hb hts hn_X11_init_X11 hown hK hP 1 rfl rfl 4 (by decide) (hts _ hw_X11_init_f37) (fun _ h9 => h9) rfl dX11_init_145 ?_
  refine lv_iload_n hx hb dX11_init_148 rfl (lv_at hl 0 rfl) ?_
  refine va_new (ci := 2) (fs := [.null, .null, .null, .null, .int 0, .int 0]) (C := RX2) (T := TX2) (N := 6) hx hb hts hn_X11_init_X2 tyX2 tyX2_ok hown (hts _ hw_X11_init_l30) (hts _ hw_X11_init_nX2) (hts _ hw_X11_init_iX2) hK hP hD hS hA rfl (fun j hj => by rcases (show j = 0 ∨ j = 1 ∨ j = 2 ∨ j = 3 ∨ j = 4 ∨ j = 5 by omega) with rfl | rfl | rfl | rfl | rfl | rfl <;> rfl) (Nat.le_of_ble_eq_true rfl) (Nat.le_of_ble_eq_true rfl) dX11_init_149 (fun q_21 H hP hD hS => ?_)
  have hP := rot_P hP
  have hD := rot_D hD
  have hP : va_P D vwCl (([(q_21, .inr (2, [.null, .null, .null, .null, .int 0, .int 0])), (q_9, .inl (cA 4, 2, .inr (.inr (.inr (.inr (fun _ => none)))))), (a0, .inr (11, [.ref q_1, .ref q_3, .ref q_5, .ref q_7, .ref q_9, .ref q_10, .ref q_12, .ref q_14, .ref q_16, .ref q_18, .int (2000 : Int32)]))] : va_W) ++ Z9) H := hP
  have hD : va_D A (([(q_21, .inr (2, [.null, .null, .null, .null, .int 0, .int 0])), (q_9, .inl (cA 4, 2, .inr (.inr (.inr (.inr (fun _ => none)))))), (a0, .inr (11, [.ref q_1, .ref q_3, .ref q_5, .ref q_7, .ref q_9, .ref q_10, .ref q_12, .ref q_14, .ref q_16, .ref q_18, .int (2000 : Int32)]))] : va_W) ++ Z9) := hD
  refine W.widen (k := 70) (n := 1450) (by omega) (by omega) ?_
  refine lv_dup hx hb dX11_init_152 rfl ?_
  refine m_callINL (As := []) (rest := [.ref q_21, .int (0 : Int32), .ref q_9]) (WR := (([(q_9, .inl (cA 4, 2, .inr (.inr (.inr (.inr (fun _ => none)))))), (a0, .inr (11, [.ref q_1, .ref q_3, .ref q_5, .ref q_7, .ref q_9, .ref q_10, .ref q_12, .ref q_14, .ref q_16, .ref q_18, .int (2000 : Int32)]))] : va_W) ++ Z9)) ⟨hx, hb, hml, hown, hts⟩ hX (ci_X2_init l D cA q_21) ⟨va_cnB 0 hts ggX11_init_X2_init rfl rfl rfl (hN _ nw_X11_32) (hts _ hw_X11_init_iX2) (by decide +kernel) ⟨Nat.le_of_ble_eq_true rfl, Nat.le_of_ble_eq_true rfl⟩, rfl, hts _ hw_X11_init_imX2_init⟩ hP hD hS hA rfl hl.1 rfl (Nat.le_of_ble_eq_true rfl) ⟨Nat.le_of_ble_eq_true rfl, Nat.le_of_ble_eq_true rfl⟩ dX11_init_153 (fun u_22 H locs hP hD hS => ?_)
  obtain ⟨Z10, eZ10⟩ : ∃ z : va_W, z = (Z9 : va_W) ++ ([(q_21, .inr (2, [.ref (u_22.1 0), .ref (u_22.1 6), .ref (u_22.1 10), .ref (u_22.1 12), .int 0, .int 0])), ((u_22.1 0), .inr (0, [.ref (u_22.1 1), .ref (u_22.1 2), .ref (u_22.1 3), .ref (u_22.1 4), .ref (u_22.1 5), .int 0])), ((u_22.1 1), .inl (cA 1, 6, .inl (fun _ => 0))), ((u_22.1 2), .inl (cA 1, 6, .inl (fun _ => 0))), ((u_22.1 3), .inl (cA 1, 6, .inl (fun _ => 0))), ((u_22.1 4), .inl (cA 1, 6, .inl (fun _ => 0))), ((u_22.1 5), .inl (cA 1, 6, .inl (fun _ => 0))), ((u_22.1 6), .inr (6, [.ref (u_22.1 7), .ref (u_22.1 8), .ref (u_22.1 9), .int 0])), ((u_22.1 7), .inl (cA 1, 12, .inl (fun _ => 0))), ((u_22.1 8), .inl (cA 1, 12, .inl (fun _ => 0))), ((u_22.1 9), .inl (cA 1, 12, .inl (fun _ => 0))), ((u_22.1 10), .inr (3, [.ref (u_22.1 11), .int 0])), ((u_22.1 11), .inl (cA 1, 16, .inl (fun _ => 0))), ((u_22.1 12), .inl (cA 2, 5, .inr (.inl kc_X2_init_q39)))] : va_W) := ⟨_, rfl⟩
  have hP : va_P D vwCl (([(q_9, .inl (cA 4, 2, .inr (.inr (.inr (.inr (fun _ => none)))))), (a0, .inr (11, [.ref q_1, .ref q_3, .ref q_5, .ref q_7, .ref q_9, .ref q_10, .ref q_12, .ref q_14, .ref q_16, .ref q_18, .int (2000 : Int32)]))] : va_W) ++ Z10) H := by rw [eZ10]; exact hP
  have hD : va_D A (([(q_9, .inl (cA 4, 2, .inr (.inr (.inr (.inr (fun _ => none)))))), (a0, .inr (11, [.ref q_1, .ref q_3, .ref q_5, .ref q_7, .ref q_9, .ref q_10, .ref q_12, .ref q_14, .ref q_16, .ref q_18, .int (2000 : Int32)]))] : va_W) ++ Z10) := by rw [eZ10]; exact hD
  refine W.widen (k := 83) (n := 1549) (by omega) (by omega) ?_
  obtain ⟨i9, hi9⟩ := List.getElem?_of_mem (show (q_21, .inr (2, [.ref (u_22.1 0), .ref (u_22.1 6), .ref (u_22.1 10), .ref (u_22.1 12), .int 0, .int 0])) ∈ (([(q_9, .inl (cA 4, 2, .inr (.inr (.inr (.inr (fun _ => none)))))), (a0, .inr (11, [.ref q_1, .ref q_3, .ref q_5, .ref q_7, .ref q_9, .ref q_10, .ref q_12, .ref q_14, .ref q_16, .ref q_18, .int (2000 : Int32)]))] : va_W) ++ Z10) from List.mem_append_right _ (by rw [eZ10]; exact List.mem_append_right _ (List.mem_of_getElem? (i := 0) rfl)))
  refine va_astq (r := (RX2, TX2, 6)) hx hb hK hP hD hS 0 4 i9 2 rfl rfl hi9 rfl (show pin (0 : Int32) 2 by decide +kernel) dX11_init_156 (fun H locs hP hD hS => ?_)
  have hP : va_P D vwCl (([(q_9, .inl (cA 4, 2, .inr (.inr (.inr (.inr (va_up (fun _ => none) (0 : Int32).toNatClampNeg (some q_21))))))), (a0, .inr (11, [.ref q_1, .ref q_3, .ref q_5, .ref q_7, .ref q_9, .ref q_10, .ref q_12, .ref q_14, .ref q_16, .ref q_18, .int (2000 : Int32)]))] : va_W) ++ Z10) H := hP
  have hD : va_D A (([(q_9, .inl (cA 4, 2, .inr (.inr (.inr (.inr (va_up (fun _ => none) (0 : Int32).toNatClampNeg (some q_21))))))), (a0, .inr (11, [.ref q_1, .ref q_3, .ref q_5, .ref q_7, .ref q_9, .ref q_10, .ref q_12, .ref q_14, .ref q_16, .ref q_18, .int (2000 : Int32)]))] : va_W) ++ Z10) := hD
  refine lv_iinc (v := (1 : Int32)) (lv' := [(1, .int (1 : Int32)), (0, .ref a0)]) hx hb dX11_init_157 hl (k := 0) rfl (by decide) (by decide) rfl (fun ls hl => ?_)
  refine lv_goto (tgt := 139) hx hb dX11_init_160 (by decide) ?_
  refine lv_iload_n hx hb dX11_init_139 rfl (lv_at hl 0 rfl) ?_
  refine lv_iconst (v := (2 : Int32)) hx hb dX11_init_140 (by decide) ?_
  refine lv_icmp_ge (tgt := 163) hx hb dX11_init_141 (by decide) (fun c_24 => ?_) (fun c_24 => ?_)
  · exact absurd c_24 (by decide)
  refine lv_aload_n hx hb dX11_init_144 rfl (lv_at hl 1 rfl) ?_
  refine va_get (D := D) (ci := 11) (v := .ref q_9) (C := RX11) (T := TX11) (N := 11) hx hb hts hn_X11_init_X11 hown hK hP 1 rfl rfl 4 (by decide) (hts _ hw_X11_init_f37) (fun _ h9 => h9) rfl dX11_init_145 ?_
  refine lv_iload_n hx hb dX11_init_148 rfl (lv_at hl 0 rfl) ?_
  refine va_new (ci := 2) (fs := [.null, .null, .null, .null, .int 0, .int 0]) (C := RX2) (T := TX2) (N := 6) hx hb hts hn_X11_init_X2 tyX2 tyX2_ok hown (hts _ hw_X11_init_l30) (hts _ hw_X11_init_nX2) (hts _ hw_X11_init_iX2) hK hP hD hS hA rfl (fun j hj => by rcases (show j = 0 ∨ j = 1 ∨ j = 2 ∨ j = 3 ∨ j = 4 ∨ j = 5 by omega) with rfl | rfl | rfl | rfl | rfl | rfl <;> rfl) (Nat.le_of_ble_eq_true rfl) (Nat.le_of_ble_eq_true rfl) dX11_init_149 (fun q_25 H hP hD hS => ?_)
  have hP := rot_P hP
  have hD := rot_D hD
  have hP : va_P D vwCl (([(q_25, .inr (2, [.null, .null, .null, .null, .int 0, .int 0])), (q_9, .inl (cA 4, 2, .inr (.inr (.inr (.inr (va_up (fun _ => none) (0 : Int32).toNatClampNeg (some q_21))))))), (a0, .inr (11, [.ref q_1, .ref q_3, .ref q_5, .ref q_7, .ref q_9, .ref q_10, .ref q_12, .ref q_14, .ref q_16, .ref q_18, .int (2000 : Int32)]))] : va_W) ++ Z10) H := hP
  have hD : va_D A (([(q_25, .inr (2, [.null, .null, .null, .null, .int 0, .int 0])), (q_9, .inl (cA 4, 2, .inr (.inr (.inr (.inr (va_up (fun _ => none) (0 : Int32).toNatClampNeg (some q_21))))))), (a0, .inr (11, [.ref q_1, .ref q_3, .ref q_5, .ref q_7, .ref q_9, .ref q_10, .ref q_12, .ref q_14, .ref q_16, .ref q_18, .int (2000 : Int32)]))] : va_W) ++ Z10) := hD
  refine W.widen (k := 84) (n := 1555) (by omega) (by omega) ?_
  refine lv_dup hx hb dX11_init_152 rfl ?_
  refine m_callINL (As := []) (rest := [.ref q_25, .int (1 : Int32), .ref q_9]) (WR := (([(q_9, .inl (cA 4, 2, .inr (.inr (.inr (.inr (va_up (fun _ => none) (0 : Int32).toNatClampNeg (some q_21))))))), (a0, .inr (11, [.ref q_1, .ref q_3, .ref q_5, .ref q_7, .ref q_9, .ref q_10, .ref q_12, .ref q_14, .ref q_16, .ref q_18, .int (2000 : Int32)]))] : va_W) ++ Z10)) ⟨hx, hb, hml, hown, hts⟩ hX (ci_X2_init l D cA q_25) ⟨va_cnB 0 hts ggX11_init_X2_init rfl rfl rfl (hN _ nw_X11_32) (hts _ hw_X11_init_iX2) (by decide +kernel) ⟨Nat.le_of_ble_eq_true rfl, Nat.le_of_ble_eq_true rfl⟩, rfl, hts _ hw_X11_init_imX2_init⟩ hP hD hS hA rfl hl.1 rfl (Nat.le_of_ble_eq_true rfl) ⟨Nat.le_of_ble_eq_true rfl, Nat.le_of_ble_eq_true rfl⟩ dX11_init_153 (fun u_26 H locs hP hD hS => ?_)
  obtain ⟨Z11, eZ11⟩ : ∃ z : va_W, z = (Z10 : va_W) ++ ([(q_25, .inr (2, [.ref (u_26.1 0), .ref (u_26.1 6), .ref (u_26.1 10), .ref (u_26.1 12), .int 0, .int 0])), ((u_26.1 0), .inr (0, [.ref (u_26.1 1), .ref (u_26.1 2), .ref (u_26.1 3), .ref (u_26.1 4), .ref (u_26.1 5), .int 0])), ((u_26.1 1), .inl (cA 1, 6, .inl (fun _ => 0))), ((u_26.1 2), .inl (cA 1, 6, .inl (fun _ => 0))), ((u_26.1 3), .inl (cA 1, 6, .inl (fun _ => 0))), ((u_26.1 4), .inl (cA 1, 6, .inl (fun _ => 0))), ((u_26.1 5), .inl (cA 1, 6, .inl (fun _ => 0))), ((u_26.1 6), .inr (6, [.ref (u_26.1 7), .ref (u_26.1 8), .ref (u_26.1 9), .int 0])), ((u_26.1 7), .inl (cA 1, 12, .inl (fun _ => 0))), ((u_26.1 8), .inl (cA 1, 12, .inl (fun _ => 0))), ((u_26.1 9), .inl (cA 1, 12, .inl (fun _ => 0))), ((u_26.1 10), .inr (3, [.ref (u_26.1 11), .int 0])), ((u_26.1 11), .inl (cA 1, 16, .inl (fun _ => 0))), ((u_26.1 12), .inl (cA 2, 5, .inr (.inl kc_X2_init_q39)))] : va_W) := ⟨_, rfl⟩
  have hP : va_P D vwCl (([(q_9, .inl (cA 4, 2, .inr (.inr (.inr (.inr (va_up (fun _ => none) (0 : Int32).toNatClampNeg (some q_21))))))), (a0, .inr (11, [.ref q_1, .ref q_3, .ref q_5, .ref q_7, .ref q_9, .ref q_10, .ref q_12, .ref q_14, .ref q_16, .ref q_18, .int (2000 : Int32)]))] : va_W) ++ Z11) H := by rw [eZ11]; exact hP
  have hD : va_D A (([(q_9, .inl (cA 4, 2, .inr (.inr (.inr (.inr (va_up (fun _ => none) (0 : Int32).toNatClampNeg (some q_21))))))), (a0, .inr (11, [.ref q_1, .ref q_3, .ref q_5, .ref q_7, .ref q_9, .ref q_10, .ref q_12, .ref q_14, .ref q_16, .ref q_18, .int (2000 : Int32)]))] : va_W) ++ Z11) := by rw [eZ11]; exact hD
  refine W.widen (k := 97) (n := 1654) (by omega) (by omega) ?_
  obtain ⟨i9, hi9⟩ := List.getElem?_of_mem (show (q_25, .inr (2, [.ref (u_26.1 0), .ref (u_26.1 6), .ref (u_26.1 10), .ref (u_26.1 12), .int 0, .int 0])) ∈ (([(q_9, .inl (cA 4, 2, .inr (.inr (.inr (.inr (va_up (fun _ => none) (0 : Int32).toNatClampNeg (some q_21))))))), (a0, .inr (11, [.ref q_1, .ref q_3, .ref q_5, .ref q_7, .ref q_9, .ref q_10, .ref q_12, .ref q_14, .ref q_16, .ref q_18, .int (2000 : Int32)]))] : va_W) ++ Z11) from List.mem_append_right _ (by rw [eZ11]; exact List.mem_append_right _ (List.mem_of_getElem? (i := 0) rfl)))
  refine va_astq (r := (RX2, TX2, 6)) hx hb hK hP hD hS 0 4 i9 2 rfl rfl hi9 rfl (show pin (1 : Int32) 2 by decide +kernel) dX11_init_156 (fun H locs hP hD hS => ?_)
  have hP : va_P D vwCl (([(q_9, .inl (cA 4, 2, .inr (.inr (.inr (.inr (va_up (va_up (fun _ => none) (0 : Int32).toNatClampNeg (some q_21)) (1 : Int32).toNatClampNeg (some q_25))))))), (a0, .inr (11, [.ref q_1, .ref q_3, .ref q_5, .ref q_7, .ref q_9, .ref q_10, .ref q_12, .ref q_14, .ref q_16, .ref q_18, .int (2000 : Int32)]))] : va_W) ++ Z11) H := hP
  have hD : va_D A (([(q_9, .inl (cA 4, 2, .inr (.inr (.inr (.inr (va_up (va_up (fun _ => none) (0 : Int32).toNatClampNeg (some q_21)) (1 : Int32).toNatClampNeg (some q_25))))))), (a0, .inr (11, [.ref q_1, .ref q_3, .ref q_5, .ref q_7, .ref q_9, .ref q_10, .ref q_12, .ref q_14, .ref q_16, .ref q_18, .int (2000 : Int32)]))] : va_W) ++ Z11) := hD
  refine lv_iinc (v := (2 : Int32)) (lv' := [(1, .int (2 : Int32)), (0, .ref a0)]) hx hb dX11_init_157 hl (k := 0) rfl (by decide) (by decide) rfl (fun ls hl => ?_)
  refine lv_goto (tgt := 139) hx hb dX11_init_160 (by decide) ?_
  refine lv_iload_n hx hb dX11_init_139 rfl (lv_at hl 0 rfl) ?_
  refine lv_iconst (v := (2 : Int32)) hx hb dX11_init_140 (by decide) ?_
  refine lv_icmp_ge (tgt := 163) hx hb dX11_init_141 (by decide) (fun c_28 => ?_) (fun c_28 => ?_)
  rotate_left
  · exact absurd (by decide) c_28
  subst eZ11
  subst eZ10
  subst eZ9
  subst eZ8
  subst eZ7
  subst eZ6
  subst eZ5
  subst eZ4
  subst eZ3
  subst eZ2
  subst eZ1
  exact m_vretI (u := (fun j => [q_1, q_3, q_5, q_7, q_9, q_10, q_12, q_14, q_16, q_18, q_21, q_25].getD j 0, fun k => [u_2, u_4, u_6, u_8, u_11, u_13, u_15, u_17, u_19, u_22, u_26].getD k (fun _ => 0, fun _ _ => 0))) hx hb hr hlocks hP hD hS (Nat.le_of_ble_eq_true rfl) (Nat.le_of_ble_eq_true rfl) dX11_init_163
