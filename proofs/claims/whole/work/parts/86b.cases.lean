section CASES
variable {p : Program} {l : Launch} {e : Env} {s : State} {m : MethodId} {below : List Frame} {meth : Method} {c : Code} {D : va_G} {cA : Nat → ClassId} {b L : Nat} {xs : Nat → Int32} {q : Nat → Nat} {r : Nat → Nat → Nat} {mq : Nat → Nat} {X Y : va_W} {H : Heap} {locs : List Loc} {ls : Array Slot} {i : Nat}
set_option maxRecDepth 100000 in
set_option maxHeartbeats 4000000 in
theorem sg_calendar (C0 : lw_At p s m meth c b L xs) (hC : CX D cA s) (hL : L ≤ 384) (hi : i + 6 ≤ L) (hl : lv_has ls 4 [(0, .ref b), (1, .ref (q 0)), (2, .ref (mq 0)), (3, .int (nI i))]) (hI : Inv cA q r mq X Y) (hP : va_P D vwCl (X ++ Y) H) (hD : va_D (LA s) (X ++ Y)) (hS : va_S (LA s) s.heap H locs) (nx : Nx p l e s m below meth c D cA b q r mq ls) : W p l e room_1 s m #[Value.ref b] below meth c H locs 122 2965 (lw_Z below #[Value.ref b] s) (F0 m 575 ls []) := by
  obtain ⟨r1, X1, Y1, hx1, hy1, hI1⟩ := st_calendar l D hI 
  obtain ⟨⟨a1, a2⟩, ⟨fs, f1⟩, ⟨gs, g1⟩⟩ := hI.addr
  obtain ⟨⟨b1, b2⟩, -, -⟩ := hI1.addr
  obtain ⟨hx, hb, hr, hml, hown0, hts, hX, hbl, hlocks, hgv⟩ := id C0
  have hown : s.vm.findClass RL = some m.cls := hown0
  have hA : ∀ q : Nat, s.heap.size ≤ q → LA s q := fun _ h => h
  refine lv_aload_n hx hb dL_law_575 rfl (lv_at hl 1 rfl) ?_
  refine law_callV (As := []) (rest := []) ⟨hx, hb, hml, hown, hts⟩ hC (hx1.left (Y := Y)) (cwV 0 hts gl_X11_calendar rfl rfl rfl (by decide +kernel) ⟨Nat.le_of_ble_eq_true rfl, Nat.le_of_ble_eq_true rfl⟩) hP hD hS hA (by rw [List.map_append, List.map_append, b1, a1]) 0 11 rfl (get_appL f1) rfl hl.1 rfl rfl (Nat.le_of_ble_eq_true rfl) ⟨Nat.le_of_ble_eq_true rfl, Nat.le_of_ble_eq_true rfl⟩ dL_law_576 (fun H locs hP hD hS => ?_)
  refine lv_aload_n hx hb dL_law_579 rfl (lv_at hl 2 rfl) ?_
  refine law_callV (As := []) (rest := [.int r1]) ⟨hx, hb, hml, hown, hts⟩ hC (hy1.right (X := X1)) (cwV 0 hts gl_X12_calendar rfl rfl rfl (by decide +kernel) ⟨Nat.le_of_ble_eq_true rfl, Nat.le_of_ble_eq_true rfl⟩) hP hD hS hA (by rw [List.map_append, List.map_append, b2, a2]) (X1.length + 0) 12 rfl (get_appR g1) rfl hl.1 rfl rfl (Nat.le_of_ble_eq_true rfl) ⟨Nat.le_of_ble_eq_true rfl, Nat.le_of_ble_eq_true rfl⟩ dL_law_580 (fun H locs hP hD hS => ?_)
  refine lv_icmp_eq (tgt := 1448) hx hb dL_law_583 (by decide) (fun _ => ?_) (fun z => ?_)
  · exact nx X1 Y1 H locs hI1 hP hD hS
  · exact absurd rfl z
set_option maxRecDepth 100000 in
set_option maxHeartbeats 4000000 in
theorem sg_clock (C0 : lw_At p s m meth c b L xs) (hC : CX D cA s) (hL : L ≤ 384) (hi : i + 6 ≤ L) (hl : lv_has ls 4 [(0, .ref b), (1, .ref (q 0)), (2, .ref (mq 0)), (3, .int (nI i))]) (hI : Inv cA q r mq X Y) (hP : va_P D vwCl (X ++ Y) H) (hD : va_D (LA s) (X ++ Y)) (hS : va_S (LA s) s.heap H locs) (nx : Nx p l e s m below meth c D cA b q r mq ls) : W p l e room_1 s m #[Value.ref b] below meth c H locs 122 2965 (lw_Z below #[Value.ref b] s) (F0 m 588 ls []) := by
  obtain ⟨r1, X1, Y1, hx1, hy1, hI1⟩ := st_clock l D hI (xs (i + 1)) (xs (i + 2)) (xs (i + 3)) (xs (i + 4))
  obtain ⟨⟨a1, a2⟩, ⟨fs, f1⟩, ⟨gs, g1⟩⟩ := hI.addr
  obtain ⟨⟨b1, b2⟩, -, -⟩ := hI1.addr
  obtain ⟨hx, hb, hr, hml, hown0, hts, hX, hbl, hlocks, hgv⟩ := id C0
  have hown : s.vm.findClass RL = some m.cls := hown0
  have hA : ∀ q : Nat, s.heap.size ≤ q → LA s q := fun _ h => h
  refine lv_aload_n hx hb dL_law_588 rfl (lv_at hl 1 rfl) ?_
  refine law_arg (k := 1) C0 hL hS hl (by omega) (by decide) dL_law_589 dL_law_590 dL_law_591 dL_law_592 dL_law_593 ?_
  refine law_arg (k := 2) C0 hL hS hl (by omega) (by decide) dL_law_594 dL_law_595 dL_law_596 dL_law_597 dL_law_598 ?_
  refine law_arg (k := 3) C0 hL hS hl (by omega) (by decide) dL_law_599 dL_law_600 dL_law_601 dL_law_602 dL_law_603 ?_
  refine law_arg (k := 4) C0 hL hS hl (by omega) (by decide) dL_law_604 dL_law_605 dL_law_606 dL_law_607 dL_law_608 ?_
  refine law_callV (As := [.int (xs (i + 1)), .int (xs (i + 2)), .int (xs (i + 3)), .int (xs (i + 4))]) (rest := []) ⟨hx, hb, hml, hown, hts⟩ hC (hx1.left (Y := Y)) (cwV 4 hts gl_X11_clock rfl rfl rfl (by decide +kernel) ⟨Nat.le_of_ble_eq_true rfl, Nat.le_of_ble_eq_true rfl⟩) hP hD hS hA (by rw [List.map_append, List.map_append, b1, a1]) 0 11 rfl (get_appL f1) rfl hl.1 rfl rfl (Nat.le_of_ble_eq_true rfl) ⟨Nat.le_of_ble_eq_true rfl, Nat.le_of_ble_eq_true rfl⟩ dL_law_609 (fun H locs hP hD hS => ?_)
  refine lv_aload_n hx hb dL_law_612 rfl (lv_at hl 2 rfl) ?_
  refine law_arg (k := 1) C0 hL hS hl (by omega) (by decide) dL_law_613 dL_law_614 dL_law_615 dL_law_616 dL_law_617 ?_
  refine law_arg (k := 2) C0 hL hS hl (by omega) (by decide) dL_law_618 dL_law_619 dL_law_620 dL_law_621 dL_law_622 ?_
  refine law_arg (k := 3) C0 hL hS hl (by omega) (by decide) dL_law_623 dL_law_624 dL_law_625 dL_law_626 dL_law_627 ?_
  refine law_arg (k := 4) C0 hL hS hl (by omega) (by decide) dL_law_628 dL_law_629 dL_law_630 dL_law_631 dL_law_632 ?_
  refine law_callV (As := [.int (xs (i + 1)), .int (xs (i + 2)), .int (xs (i + 3)), .int (xs (i + 4))]) (rest := [.int r1]) ⟨hx, hb, hml, hown, hts⟩ hC (hy1.right (X := X1)) (cwV 4 hts gl_X12_clock rfl rfl rfl (by decide +kernel) ⟨Nat.le_of_ble_eq_true rfl, Nat.le_of_ble_eq_true rfl⟩) hP hD hS hA (by rw [List.map_append, List.map_append, b2, a2]) (X1.length + 0) 12 rfl (get_appR g1) rfl hl.1 rfl rfl (Nat.le_of_ble_eq_true rfl) ⟨Nat.le_of_ble_eq_true rfl, Nat.le_of_ble_eq_true rfl⟩ dL_law_633 (fun H locs hP hD hS => ?_)
  refine lv_icmp_eq (tgt := 1448) hx hb dL_law_636 (by decide) (fun _ => ?_) (fun z => ?_)
  · exact nx X1 Y1 H locs hI1 hP hD hS
  · exact absurd rfl z
set_option maxRecDepth 100000 in
set_option maxHeartbeats 4000000 in
theorem sg_told (C0 : lw_At p s m meth c b L xs) (hC : CX D cA s) (hL : L ≤ 384) (hi : i + 6 ≤ L) (hl : lv_has ls 4 [(0, .ref b), (1, .ref (q 0)), (2, .ref (mq 0)), (3, .int (nI i))]) (hI : Inv cA q r mq X Y) (hP : va_P D vwCl (X ++ Y) H) (hD : va_D (LA s) (X ++ Y)) (hS : va_S (LA s) s.heap H locs) (nx : Nx p l e s m below meth c D cA b q r mq ls) : W p l e room_1 s m #[Value.ref b] below meth c H locs 122 2965 (lw_Z below #[Value.ref b] s) (F0 m 641 ls []) := by
  obtain ⟨r1, X1, Y1, hx1, hy1, hI1⟩ := st_told l D hI (xs (i + 1)) (xs (i + 2))
  obtain ⟨⟨a1, a2⟩, ⟨fs, f1⟩, ⟨gs, g1⟩⟩ := hI.addr
  obtain ⟨⟨b1, b2⟩, -, -⟩ := hI1.addr
  obtain ⟨hx, hb, hr, hml, hown0, hts, hX, hbl, hlocks, hgv⟩ := id C0
  have hown : s.vm.findClass RL = some m.cls := hown0
  have hA : ∀ q : Nat, s.heap.size ≤ q → LA s q := fun _ h => h
  refine lv_aload_n hx hb dL_law_641 rfl (lv_at hl 1 rfl) ?_
  refine law_arg (k := 1) C0 hL hS hl (by omega) (by decide) dL_law_642 dL_law_643 dL_law_644 dL_law_645 dL_law_646 ?_
  refine law_arg (k := 2) C0 hL hS hl (by omega) (by decide) dL_law_647 dL_law_648 dL_law_649 dL_law_650 dL_law_651 ?_
  refine law_callV (As := [.int (xs (i + 1)), .int (xs (i + 2))]) (rest := []) ⟨hx, hb, hml, hown, hts⟩ hC (hx1.left (Y := Y)) (cwV 2 hts gl_X11_told rfl rfl rfl (by decide +kernel) ⟨Nat.le_of_ble_eq_true rfl, Nat.le_of_ble_eq_true rfl⟩) hP hD hS hA (by rw [List.map_append, List.map_append, b1, a1]) 0 11 rfl (get_appL f1) rfl hl.1 rfl rfl (Nat.le_of_ble_eq_true rfl) ⟨Nat.le_of_ble_eq_true rfl, Nat.le_of_ble_eq_true rfl⟩ dL_law_652 (fun H locs hP hD hS => ?_)
  refine lv_aload_n hx hb dL_law_655 rfl (lv_at hl 2 rfl) ?_
  refine law_arg (k := 1) C0 hL hS hl (by omega) (by decide) dL_law_656 dL_law_657 dL_law_658 dL_law_659 dL_law_660 ?_
  refine law_arg (k := 2) C0 hL hS hl (by omega) (by decide) dL_law_661 dL_law_662 dL_law_663 dL_law_664 dL_law_665 ?_
  refine law_callV (As := [.int (xs (i + 1)), .int (xs (i + 2))]) (rest := [.int r1]) ⟨hx, hb, hml, hown, hts⟩ hC (hy1.right (X := X1)) (cwV 2 hts gl_X12_told rfl rfl rfl (by decide +kernel) ⟨Nat.le_of_ble_eq_true rfl, Nat.le_of_ble_eq_true rfl⟩) hP hD hS hA (by rw [List.map_append, List.map_append, b2, a2]) (X1.length + 0) 12 rfl (get_appR g1) rfl hl.1 rfl rfl (Nat.le_of_ble_eq_true rfl) ⟨Nat.le_of_ble_eq_true rfl, Nat.le_of_ble_eq_true rfl⟩ dL_law_666 (fun H locs hP hD hS => ?_)
  refine lv_icmp_eq (tgt := 1448) hx hb dL_law_669 (by decide) (fun _ => ?_) (fun z => ?_)
  · exact nx X1 Y1 H locs hI1 hP hD hS
  · exact absurd rfl z
set_option maxRecDepth 100000 in
set_option maxHeartbeats 4000000 in
theorem sg_ring (C0 : lw_At p s m meth c b L xs) (hC : CX D cA s) (hL : L ≤ 384) (hi : i + 6 ≤ L) (hl : lv_has ls 4 [(0, .ref b), (1, .ref (q 0)), (2, .ref (mq 0)), (3, .int (nI i))]) (hI : Inv cA q r mq X Y) (hP : va_P D vwCl (X ++ Y) H) (hD : va_D (LA s) (X ++ Y)) (hS : va_S (LA s) s.heap H locs) (nx : Nx p l e s m below meth c D cA b q r mq ls) : W p l e room_1 s m #[Value.ref b] below meth c H locs 122 2965 (lw_Z below #[Value.ref b] s) (F0 m 674 ls []) := by
  obtain ⟨r1, X1, Y1, hx1, hy1, hI1⟩ := st_ring l D hI (xs (i + 1))
  obtain ⟨⟨a1, a2⟩, ⟨fs, f1⟩, ⟨gs, g1⟩⟩ := hI.addr
  obtain ⟨⟨b1, b2⟩, -, -⟩ := hI1.addr
  obtain ⟨hx, hb, hr, hml, hown0, hts, hX, hbl, hlocks, hgv⟩ := id C0
  have hown : s.vm.findClass RL = some m.cls := hown0
  have hA : ∀ q : Nat, s.heap.size ≤ q → LA s q := fun _ h => h
  refine lv_aload_n hx hb dL_law_674 rfl (lv_at hl 1 rfl) ?_
  refine law_arg (k := 1) C0 hL hS hl (by omega) (by decide) dL_law_675 dL_law_676 dL_law_677 dL_law_678 dL_law_679 ?_
  refine law_callV (As := [.int (xs (i + 1))]) (rest := []) ⟨hx, hb, hml, hown, hts⟩ hC (hx1.left (Y := Y)) (cwV 1 hts gl_X11_ring rfl rfl rfl (by decide +kernel) ⟨Nat.le_of_ble_eq_true rfl, Nat.le_of_ble_eq_true rfl⟩) hP hD hS hA (by rw [List.map_append, List.map_append, b1, a1]) 0 11 rfl (get_appL f1) rfl hl.1 rfl rfl (Nat.le_of_ble_eq_true rfl) ⟨Nat.le_of_ble_eq_true rfl, Nat.le_of_ble_eq_true rfl⟩ dL_law_680 (fun H locs hP hD hS => ?_)
  refine lv_aload_n hx hb dL_law_683 rfl (lv_at hl 2 rfl) ?_
  refine law_arg (k := 1) C0 hL hS hl (by omega) (by decide) dL_law_684 dL_law_685 dL_law_686 dL_law_687 dL_law_688 ?_
  refine law_callV (As := [.int (xs (i + 1))]) (rest := [.int r1]) ⟨hx, hb, hml, hown, hts⟩ hC (hy1.right (X := X1)) (cwV 1 hts gl_X12_ring rfl rfl rfl (by decide +kernel) ⟨Nat.le_of_ble_eq_true rfl, Nat.le_of_ble_eq_true rfl⟩) hP hD hS hA (by rw [List.map_append, List.map_append, b2, a2]) (X1.length + 0) 12 rfl (get_appR g1) rfl hl.1 rfl rfl (Nat.le_of_ble_eq_true rfl) ⟨Nat.le_of_ble_eq_true rfl, Nat.le_of_ble_eq_true rfl⟩ dL_law_689 (fun H locs hP hD hS => ?_)
  refine lv_icmp_eq (tgt := 1448) hx hb dL_law_692 (by decide) (fun _ => ?_) (fun z => ?_)
  · exact nx X1 Y1 H locs hI1 hP hD hS
  · exact absurd rfl z
set_option maxRecDepth 100000 in
set_option maxHeartbeats 4000000 in
theorem sg_living (C0 : lw_At p s m meth c b L xs) (hC : CX D cA s) (hL : L ≤ 384) (hi : i + 6 ≤ L) (hl : lv_has ls 4 [(0, .ref b), (1, .ref (q 0)), (2, .ref (mq 0)), (3, .int (nI i))]) (hI : Inv cA q r mq X Y) (hP : va_P D vwCl (X ++ Y) H) (hD : va_D (LA s) (X ++ Y)) (hS : va_S (LA s) s.heap H locs) (nx : Nx p l e s m below meth c D cA b q r mq ls) : W p l e room_1 s m #[Value.ref b] below meth c H locs 122 2965 (lw_Z below #[Value.ref b] s) (F0 m 697 ls []) := by
  obtain ⟨r1, X1, Y1, hx1, hy1, hI1⟩ := st_living l D hI (xs (i + 1))
  obtain ⟨⟨a1, a2⟩, ⟨fs, f1⟩, ⟨gs, g1⟩⟩ := hI.addr
  obtain ⟨⟨b1, b2⟩, -, -⟩ := hI1.addr
  obtain ⟨hx, hb, hr, hml, hown0, hts, hX, hbl, hlocks, hgv⟩ := id C0
  have hown : s.vm.findClass RL = some m.cls := hown0
  have hA : ∀ q : Nat, s.heap.size ≤ q → LA s q := fun _ h => h
  refine lv_aload_n hx hb dL_law_697 rfl (lv_at hl 1 rfl) ?_
  refine law_arg (k := 1) C0 hL hS hl (by omega) (by decide) dL_law_698 dL_law_699 dL_law_700 dL_law_701 dL_law_702 ?_
  refine law_callV (As := [.int (xs (i + 1))]) (rest := []) ⟨hx, hb, hml, hown, hts⟩ hC (hx1.left (Y := Y)) (cwV 1 hts gl_X11_living rfl rfl rfl (by decide +kernel) ⟨Nat.le_of_ble_eq_true rfl, Nat.le_of_ble_eq_true rfl⟩) hP hD hS hA (by rw [List.map_append, List.map_append, b1, a1]) 0 11 rfl (get_appL f1) rfl hl.1 rfl rfl (Nat.le_of_ble_eq_true rfl) ⟨Nat.le_of_ble_eq_true rfl, Nat.le_of_ble_eq_true rfl⟩ dL_law_703 (fun H locs hP hD hS => ?_)
  refine lv_aload_n hx hb dL_law_706 rfl (lv_at hl 2 rfl) ?_
  refine law_arg (k := 1) C0 hL hS hl (by omega) (by decide) dL_law_707 dL_law_708 dL_law_709 dL_law_710 dL_law_711 ?_
  refine law_callV (As := [.int (xs (i + 1))]) (rest := [.int r1]) ⟨hx, hb, hml, hown, hts⟩ hC (hy1.right (X := X1)) (cwV 1 hts gl_X12_living rfl rfl rfl (by decide +kernel) ⟨Nat.le_of_ble_eq_true rfl, Nat.le_of_ble_eq_true rfl⟩) hP hD hS hA (by rw [List.map_append, List.map_append, b2, a2]) (X1.length + 0) 12 rfl (get_appR g1) rfl hl.1 rfl rfl (Nat.le_of_ble_eq_true rfl) ⟨Nat.le_of_ble_eq_true rfl, Nat.le_of_ble_eq_true rfl⟩ dL_law_712 (fun H locs hP hD hS => ?_)
  refine lv_icmp_eq (tgt := 1448) hx hb dL_law_715 (by decide) (fun _ => ?_) (fun z => ?_)
  · exact nx X1 Y1 H locs hI1 hP hD hS
  · exact absurd rfl z
set_option maxRecDepth 100000 in
set_option maxHeartbeats 4000000 in
theorem sg_wood (C0 : lw_At p s m meth c b L xs) (hC : CX D cA s) (hL : L ≤ 384) (hi : i + 6 ≤ L) (hl : lv_has ls 4 [(0, .ref b), (1, .ref (q 0)), (2, .ref (mq 0)), (3, .int (nI i))]) (hI : Inv cA q r mq X Y) (hP : va_P D vwCl (X ++ Y) H) (hD : va_D (LA s) (X ++ Y)) (hS : va_S (LA s) s.heap H locs) (nx : Nx p l e s m below meth c D cA b q r mq ls) : W p l e room_1 s m #[Value.ref b] below meth c H locs 122 2965 (lw_Z below #[Value.ref b] s) (F0 m 720 ls []) := by
  obtain ⟨r1, X1, Y1, hx1, hy1, hI1⟩ := st_wood l D hI (xs (i + 1)) (xs (i + 2))
  obtain ⟨⟨a1, a2⟩, ⟨fs, f1⟩, ⟨gs, g1⟩⟩ := hI.addr
  obtain ⟨⟨b1, b2⟩, -, -⟩ := hI1.addr
  obtain ⟨hx, hb, hr, hml, hown0, hts, hX, hbl, hlocks, hgv⟩ := id C0
  have hown : s.vm.findClass RL = some m.cls := hown0
  have hA : ∀ q : Nat, s.heap.size ≤ q → LA s q := fun _ h => h
  refine lv_aload_n hx hb dL_law_720 rfl (lv_at hl 1 rfl) ?_
  refine law_arg (k := 1) C0 hL hS hl (by omega) (by decide) dL_law_721 dL_law_722 dL_law_723 dL_law_724 dL_law_725 ?_
  refine law_arg (k := 2) C0 hL hS hl (by omega) (by decide) dL_law_726 dL_law_727 dL_law_728 dL_law_729 dL_law_730 ?_
  refine law_callV (As := [.int (xs (i + 1)), .int (xs (i + 2))]) (rest := []) ⟨hx, hb, hml, hown, hts⟩ hC (hx1.left (Y := Y)) (cwV 2 hts gl_X11_wood rfl rfl rfl (by decide +kernel) ⟨Nat.le_of_ble_eq_true rfl, Nat.le_of_ble_eq_true rfl⟩) hP hD hS hA (by rw [List.map_append, List.map_append, b1, a1]) 0 11 rfl (get_appL f1) rfl hl.1 rfl rfl (Nat.le_of_ble_eq_true rfl) ⟨Nat.le_of_ble_eq_true rfl, Nat.le_of_ble_eq_true rfl⟩ dL_law_731 (fun H locs hP hD hS => ?_)
  refine lv_aload_n hx hb dL_law_734 rfl (lv_at hl 2 rfl) ?_
  refine law_arg (k := 1) C0 hL hS hl (by omega) (by decide) dL_law_735 dL_law_736 dL_law_737 dL_law_738 dL_law_739 ?_
  refine law_arg (k := 2) C0 hL hS hl (by omega) (by decide) dL_law_740 dL_law_741 dL_law_742 dL_law_743 dL_law_744 ?_
  refine law_callV (As := [.int (xs (i + 1)), .int (xs (i + 2))]) (rest := [.int r1]) ⟨hx, hb, hml, hown, hts⟩ hC (hy1.right (X := X1)) (cwV 2 hts gl_X12_wood rfl rfl rfl (by decide +kernel) ⟨Nat.le_of_ble_eq_true rfl, Nat.le_of_ble_eq_true rfl⟩) hP hD hS hA (by rw [List.map_append, List.map_append, b2, a2]) (X1.length + 0) 12 rfl (get_appR g1) rfl hl.1 rfl rfl (Nat.le_of_ble_eq_true rfl) ⟨Nat.le_of_ble_eq_true rfl, Nat.le_of_ble_eq_true rfl⟩ dL_law_745 (fun H locs hP hD hS => ?_)
  refine lv_icmp_eq (tgt := 1448) hx hb dL_law_748 (by decide) (fun _ => ?_) (fun z => ?_)
  · exact nx X1 Y1 H locs hI1 hP hD hS
  · exact absurd rfl z
set_option maxRecDepth 100000 in
set_option maxHeartbeats 4000000 in
theorem sg_felled (C0 : lw_At p s m meth c b L xs) (hC : CX D cA s) (hL : L ≤ 384) (hi : i + 6 ≤ L) (hl : lv_has ls 4 [(0, .ref b), (1, .ref (q 0)), (2, .ref (mq 0)), (3, .int (nI i))]) (hI : Inv cA q r mq X Y) (hP : va_P D vwCl (X ++ Y) H) (hD : va_D (LA s) (X ++ Y)) (hS : va_S (LA s) s.heap H locs) (nx : Nx p l e s m below meth c D cA b q r mq ls) : W p l e room_1 s m #[Value.ref b] below meth c H locs 122 2965 (lw_Z below #[Value.ref b] s) (F0 m 753 ls []) := by
  obtain ⟨r1, X1, Y1, hx1, hy1, hI1⟩ := st_felled l D hI (xs (i + 1)) (xs (i + 2))
  obtain ⟨⟨a1, a2⟩, ⟨fs, f1⟩, ⟨gs, g1⟩⟩ := hI.addr
  obtain ⟨⟨b1, b2⟩, -, -⟩ := hI1.addr
  obtain ⟨hx, hb, hr, hml, hown0, hts, hX, hbl, hlocks, hgv⟩ := id C0
  have hown : s.vm.findClass RL = some m.cls := hown0
  have hA : ∀ q : Nat, s.heap.size ≤ q → LA s q := fun _ h => h
  refine lv_aload_n hx hb dL_law_753 rfl (lv_at hl 1 rfl) ?_
  refine law_arg (k := 1) C0 hL hS hl (by omega) (by decide) dL_law_754 dL_law_755 dL_law_756 dL_law_757 dL_law_758 ?_
  refine law_arg (k := 2) C0 hL hS hl (by omega) (by decide) dL_law_759 dL_law_760 dL_law_761 dL_law_762 dL_law_763 ?_
  refine law_callV (As := [.int (xs (i + 1)), .int (xs (i + 2))]) (rest := []) ⟨hx, hb, hml, hown, hts⟩ hC (hx1.left (Y := Y)) (cwV 2 hts gl_X11_felled rfl rfl rfl (by decide +kernel) ⟨Nat.le_of_ble_eq_true rfl, Nat.le_of_ble_eq_true rfl⟩) hP hD hS hA (by rw [List.map_append, List.map_append, b1, a1]) 0 11 rfl (get_appL f1) rfl hl.1 rfl rfl (Nat.le_of_ble_eq_true rfl) ⟨Nat.le_of_ble_eq_true rfl, Nat.le_of_ble_eq_true rfl⟩ dL_law_764 (fun H locs hP hD hS => ?_)
  refine lv_aload_n hx hb dL_law_767 rfl (lv_at hl 2 rfl) ?_
  refine law_arg (k := 1) C0 hL hS hl (by omega) (by decide) dL_law_768 dL_law_769 dL_law_770 dL_law_771 dL_law_772 ?_
  refine law_arg (k := 2) C0 hL hS hl (by omega) (by decide) dL_law_773 dL_law_774 dL_law_775 dL_law_776 dL_law_777 ?_
  refine law_callV (As := [.int (xs (i + 1)), .int (xs (i + 2))]) (rest := [.int r1]) ⟨hx, hb, hml, hown, hts⟩ hC (hy1.right (X := X1)) (cwV 2 hts gl_X12_felled rfl rfl rfl (by decide +kernel) ⟨Nat.le_of_ble_eq_true rfl, Nat.le_of_ble_eq_true rfl⟩) hP hD hS hA (by rw [List.map_append, List.map_append, b2, a2]) (X1.length + 0) 12 rfl (get_appR g1) rfl hl.1 rfl rfl (Nat.le_of_ble_eq_true rfl) ⟨Nat.le_of_ble_eq_true rfl, Nat.le_of_ble_eq_true rfl⟩ dL_law_778 (fun H locs hP hD hS => ?_)
  refine lv_icmp_eq (tgt := 1448) hx hb dL_law_781 (by decide) (fun _ => ?_) (fun z => ?_)
  · exact nx X1 Y1 H locs hI1 hP hD hS
  · exact absurd rfl z
set_option maxRecDepth 100000 in
set_option maxHeartbeats 4000000 in
theorem sg_like (C0 : lw_At p s m meth c b L xs) (hC : CX D cA s) (hL : L ≤ 384) (hi : i + 6 ≤ L) (hl : lv_has ls 4 [(0, .ref b), (1, .ref (q 0)), (2, .ref (mq 0)), (3, .int (nI i))]) (hI : Inv cA q r mq X Y) (hP : va_P D vwCl (X ++ Y) H) (hD : va_D (LA s) (X ++ Y)) (hS : va_S (LA s) s.heap H locs) (nx : Nx p l e s m below meth c D cA b q r mq ls) : W p l e room_1 s m #[Value.ref b] below meth c H locs 122 2965 (lw_Z below #[Value.ref b] s) (F0 m 786 ls []) := by
  obtain ⟨r1, X1, Y1, hx1, hy1, hI1⟩ := st_like l D hI (xs (i + 1)) (xs (i + 2))
  obtain ⟨⟨a1, a2⟩, ⟨fs, f1⟩, ⟨gs, g1⟩⟩ := hI.addr
  obtain ⟨⟨b1, b2⟩, -, -⟩ := hI1.addr
  obtain ⟨hx, hb, hr, hml, hown0, hts, hX, hbl, hlocks, hgv⟩ := id C0
  have hown : s.vm.findClass RL = some m.cls := hown0
  have hA : ∀ q : Nat, s.heap.size ≤ q → LA s q := fun _ h => h
  refine lv_aload_n hx hb dL_law_786 rfl (lv_at hl 1 rfl) ?_
  refine law_arg (k := 1) C0 hL hS hl (by omega) (by decide) dL_law_787 dL_law_788 dL_law_789 dL_law_790 dL_law_791 ?_
  refine law_arg (k := 2) C0 hL hS hl (by omega) (by decide) dL_law_792 dL_law_793 dL_law_794 dL_law_795 dL_law_796 ?_
  refine law_callV (As := [.int (xs (i + 1)), .int (xs (i + 2))]) (rest := []) ⟨hx, hb, hml, hown, hts⟩ hC (hx1.left (Y := Y)) (cwV 2 hts gl_X11_like rfl rfl rfl (by decide +kernel) ⟨Nat.le_of_ble_eq_true rfl, Nat.le_of_ble_eq_true rfl⟩) hP hD hS hA (by rw [List.map_append, List.map_append, b1, a1]) 0 11 rfl (get_appL f1) rfl hl.1 rfl rfl (Nat.le_of_ble_eq_true rfl) ⟨Nat.le_of_ble_eq_true rfl, Nat.le_of_ble_eq_true rfl⟩ dL_law_797 (fun H locs hP hD hS => ?_)
  refine lv_aload_n hx hb dL_law_800 rfl (lv_at hl 2 rfl) ?_
  refine law_arg (k := 1) C0 hL hS hl (by omega) (by decide) dL_law_801 dL_law_802 dL_law_803 dL_law_804 dL_law_805 ?_
  refine law_arg (k := 2) C0 hL hS hl (by omega) (by decide) dL_law_806 dL_law_807 dL_law_808 dL_law_809 dL_law_810 ?_
  refine law_callV (As := [.int (xs (i + 1)), .int (xs (i + 2))]) (rest := [.int r1]) ⟨hx, hb, hml, hown, hts⟩ hC (hy1.right (X := X1)) (cwV 2 hts gl_X12_like rfl rfl rfl (by decide +kernel) ⟨Nat.le_of_ble_eq_true rfl, Nat.le_of_ble_eq_true rfl⟩) hP hD hS hA (by rw [List.map_append, List.map_append, b2, a2]) (X1.length + 0) 12 rfl (get_appR g1) rfl hl.1 rfl rfl (Nat.le_of_ble_eq_true rfl) ⟨Nat.le_of_ble_eq_true rfl, Nat.le_of_ble_eq_true rfl⟩ dL_law_811 (fun H locs hP hD hS => ?_)
  refine lv_icmp_eq (tgt := 1448) hx hb dL_law_814 (by decide) (fun _ => ?_) (fun z => ?_)
  · exact nx X1 Y1 H locs hI1 hP hD hS
  · exact absurd rfl z
set_option maxRecDepth 100000 in
set_option maxHeartbeats 4000000 in
theorem sg_died (C0 : lw_At p s m meth c b L xs) (hC : CX D cA s) (hL : L ≤ 384) (hi : i + 6 ≤ L) (hl : lv_has ls 4 [(0, .ref b), (1, .ref (q 0)), (2, .ref (mq 0)), (3, .int (nI i))]) (hI : Inv cA q r mq X Y) (hP : va_P D vwCl (X ++ Y) H) (hD : va_D (LA s) (X ++ Y)) (hS : va_S (LA s) s.heap H locs) (nx : Nx p l e s m below meth c D cA b q r mq ls) : W p l e room_1 s m #[Value.ref b] below meth c H locs 122 2965 (lw_Z below #[Value.ref b] s) (F0 m 819 ls []) := by
  obtain ⟨r1, X1, Y1, hx1, hy1, hI1⟩ := st_died l D hI (xs (i + 1)) (xs (i + 2))
  obtain ⟨⟨a1, a2⟩, ⟨fs, f1⟩, ⟨gs, g1⟩⟩ := hI.addr
  obtain ⟨⟨b1, b2⟩, -, -⟩ := hI1.addr
  obtain ⟨hx, hb, hr, hml, hown0, hts, hX, hbl, hlocks, hgv⟩ := id C0
  have hown : s.vm.findClass RL = some m.cls := hown0
  have hA : ∀ q : Nat, s.heap.size ≤ q → LA s q := fun _ h => h
  refine lv_aload_n hx hb dL_law_819 rfl (lv_at hl 1 rfl) ?_
  refine law_arg (k := 1) C0 hL hS hl (by omega) (by decide) dL_law_820 dL_law_821 dL_law_822 dL_law_823 dL_law_824 ?_
  refine law_arg (k := 2) C0 hL hS hl (by omega) (by decide) dL_law_825 dL_law_826 dL_law_827 dL_law_828 dL_law_829 ?_
  refine law_callV (As := [.int (xs (i + 1)), .int (xs (i + 2))]) (rest := []) ⟨hx, hb, hml, hown, hts⟩ hC (hx1.left (Y := Y)) (cwV 2 hts gl_X11_died rfl rfl rfl (by decide +kernel) ⟨Nat.le_of_ble_eq_true rfl, Nat.le_of_ble_eq_true rfl⟩) hP hD hS hA (by rw [List.map_append, List.map_append, b1, a1]) 0 11 rfl (get_appL f1) rfl hl.1 rfl rfl (Nat.le_of_ble_eq_true rfl) ⟨Nat.le_of_ble_eq_true rfl, Nat.le_of_ble_eq_true rfl⟩ dL_law_830 (fun H locs hP hD hS => ?_)
  refine lv_aload_n hx hb dL_law_833 rfl (lv_at hl 2 rfl) ?_
  refine law_arg (k := 1) C0 hL hS hl (by omega) (by decide) dL_law_834 dL_law_835 dL_law_836 dL_law_837 dL_law_838 ?_
  refine law_arg (k := 2) C0 hL hS hl (by omega) (by decide) dL_law_839 dL_law_840 dL_law_841 dL_law_842 dL_law_843 ?_
  refine law_callV (As := [.int (xs (i + 1)), .int (xs (i + 2))]) (rest := [.int r1]) ⟨hx, hb, hml, hown, hts⟩ hC (hy1.right (X := X1)) (cwV 2 hts gl_X12_died rfl rfl rfl (by decide +kernel) ⟨Nat.le_of_ble_eq_true rfl, Nat.le_of_ble_eq_true rfl⟩) hP hD hS hA (by rw [List.map_append, List.map_append, b2, a2]) (X1.length + 0) 12 rfl (get_appR g1) rfl hl.1 rfl rfl (Nat.le_of_ble_eq_true rfl) ⟨Nat.le_of_ble_eq_true rfl, Nat.le_of_ble_eq_true rfl⟩ dL_law_844 (fun H locs hP hD hS => ?_)
  refine lv_icmp_eq (tgt := 1448) hx hb dL_law_847 (by decide) (fun _ => ?_) (fun z => ?_)
  · exact nx X1 Y1 H locs hI1 hP hD hS
  · exact absurd rfl z
set_option maxRecDepth 100000 in
set_option maxHeartbeats 4000000 in
theorem sg_alike (C0 : lw_At p s m meth c b L xs) (hC : CX D cA s) (hL : L ≤ 384) (hi : i + 6 ≤ L) (hl : lv_has ls 4 [(0, .ref b), (1, .ref (q 0)), (2, .ref (mq 0)), (3, .int (nI i))]) (hI : Inv cA q r mq X Y) (hP : va_P D vwCl (X ++ Y) H) (hD : va_D (LA s) (X ++ Y)) (hS : va_S (LA s) s.heap H locs) (nx : Nx p l e s m below meth c D cA b q r mq ls) : W p l e room_1 s m #[Value.ref b] below meth c H locs 122 2965 (lw_Z below #[Value.ref b] s) (F0 m 852 ls []) := by
  obtain ⟨r1, X1, Y1, hx1, hy1, hI1⟩ := st_alike l D hI 
  obtain ⟨⟨a1, a2⟩, ⟨fs, f1⟩, ⟨gs, g1⟩⟩ := hI.addr
  obtain ⟨⟨b1, b2⟩, -, -⟩ := hI1.addr
  obtain ⟨hx, hb, hr, hml, hown0, hts, hX, hbl, hlocks, hgv⟩ := id C0
  have hown : s.vm.findClass RL = some m.cls := hown0
  have hA : ∀ q : Nat, s.heap.size ≤ q → LA s q := fun _ h => h
  refine lv_aload_n hx hb dL_law_852 rfl (lv_at hl 1 rfl) ?_
  refine law_callV (As := []) (rest := []) ⟨hx, hb, hml, hown, hts⟩ hC (hx1.left (Y := Y)) (cwV 0 hts gl_X11_alike rfl rfl rfl (by decide +kernel) ⟨Nat.le_of_ble_eq_true rfl, Nat.le_of_ble_eq_true rfl⟩) hP hD hS hA (by rw [List.map_append, List.map_append, b1, a1]) 0 11 rfl (get_appL f1) rfl hl.1 rfl rfl (Nat.le_of_ble_eq_true rfl) ⟨Nat.le_of_ble_eq_true rfl, Nat.le_of_ble_eq_true rfl⟩ dL_law_853 (fun H locs hP hD hS => ?_)
  refine lv_aload_n hx hb dL_law_856 rfl (lv_at hl 2 rfl) ?_
  refine law_callV (As := []) (rest := [.int r1]) ⟨hx, hb, hml, hown, hts⟩ hC (hy1.right (X := X1)) (cwV 0 hts gl_X12_alike rfl rfl rfl (by decide +kernel) ⟨Nat.le_of_ble_eq_true rfl, Nat.le_of_ble_eq_true rfl⟩) hP hD hS hA (by rw [List.map_append, List.map_append, b2, a2]) (X1.length + 0) 12 rfl (get_appR g1) rfl hl.1 rfl rfl (Nat.le_of_ble_eq_true rfl) ⟨Nat.le_of_ble_eq_true rfl, Nat.le_of_ble_eq_true rfl⟩ dL_law_857 (fun H locs hP hD hS => ?_)
  refine lv_icmp_eq (tgt := 1448) hx hb dL_law_860 (by decide) (fun _ => ?_) (fun z => ?_)
  · exact nx X1 Y1 H locs hI1 hP hD hS
  · exact absurd rfl z
set_option maxRecDepth 100000 in
set_option maxHeartbeats 4000000 in
theorem sg_sheet (C0 : lw_At p s m meth c b L xs) (hC : CX D cA s) (hL : L ≤ 384) (hi : i + 6 ≤ L) (hl : lv_has ls 4 [(0, .ref b), (1, .ref (q 0)), (2, .ref (mq 0)), (3, .int (nI i))]) (hI : Inv cA q r mq X Y) (hP : va_P D vwCl (X ++ Y) H) (hD : va_D (LA s) (X ++ Y)) (hS : va_S (LA s) s.heap H locs) (nx : Nx p l e s m below meth c D cA b q r mq ls) : W p l e room_1 s m #[Value.ref b] below meth c H locs 122 2965 (lw_Z below #[Value.ref b] s) (F0 m 865 ls []) := by
  obtain ⟨r1, X1, Y1, hx1, hy1, hI1⟩ := st_sheet l D hI (xs (i + 1)) (xs (i + 2)) (xs (i + 3))
  obtain ⟨⟨a1, a2⟩, ⟨fs, f1⟩, ⟨gs, g1⟩⟩ := hI.addr
  obtain ⟨⟨b1, b2⟩, -, -⟩ := hI1.addr
  obtain ⟨hx, hb, hr, hml, hown0, hts, hX, hbl, hlocks, hgv⟩ := id C0
  have hown : s.vm.findClass RL = some m.cls := hown0
  have hA : ∀ q : Nat, s.heap.size ≤ q → LA s q := fun _ h => h
  refine lv_aload_n hx hb dL_law_865 rfl (lv_at hl 1 rfl) ?_
  refine law_arg (k := 1) C0 hL hS hl (by omega) (by decide) dL_law_866 dL_law_867 dL_law_868 dL_law_869 dL_law_870 ?_
  refine law_arg (k := 2) C0 hL hS hl (by omega) (by decide) dL_law_871 dL_law_872 dL_law_873 dL_law_874 dL_law_875 ?_
  refine law_arg (k := 3) C0 hL hS hl (by omega) (by decide) dL_law_876 dL_law_877 dL_law_878 dL_law_879 dL_law_880 ?_
  refine law_callV (As := [.int (xs (i + 1)), .int (xs (i + 2)), .int (xs (i + 3))]) (rest := []) ⟨hx, hb, hml, hown, hts⟩ hC (hx1.left (Y := Y)) (cwV 3 hts gl_X11_sheet rfl rfl rfl (by decide +kernel) ⟨Nat.le_of_ble_eq_true rfl, Nat.le_of_ble_eq_true rfl⟩) hP hD hS hA (by rw [List.map_append, List.map_append, b1, a1]) 0 11 rfl (get_appL f1) rfl hl.1 rfl rfl (Nat.le_of_ble_eq_true rfl) ⟨Nat.le_of_ble_eq_true rfl, Nat.le_of_ble_eq_true rfl⟩ dL_law_881 (fun H locs hP hD hS => ?_)
  refine lv_aload_n hx hb dL_law_884 rfl (lv_at hl 2 rfl) ?_
  refine law_arg (k := 1) C0 hL hS hl (by omega) (by decide) dL_law_885 dL_law_886 dL_law_887 dL_law_888 dL_law_889 ?_
  refine law_arg (k := 2) C0 hL hS hl (by omega) (by decide) dL_law_890 dL_law_891 dL_law_892 dL_law_893 dL_law_894 ?_
  refine law_arg (k := 3) C0 hL hS hl (by omega) (by decide) dL_law_895 dL_law_896 dL_law_897 dL_law_898 dL_law_899 ?_
  refine law_callV (As := [.int (xs (i + 1)), .int (xs (i + 2)), .int (xs (i + 3))]) (rest := [.int r1]) ⟨hx, hb, hml, hown, hts⟩ hC (hy1.right (X := X1)) (cwV 3 hts gl_X12_sheet rfl rfl rfl (by decide +kernel) ⟨Nat.le_of_ble_eq_true rfl, Nat.le_of_ble_eq_true rfl⟩) hP hD hS hA (by rw [List.map_append, List.map_append, b2, a2]) (X1.length + 0) 12 rfl (get_appR g1) rfl hl.1 rfl rfl (Nat.le_of_ble_eq_true rfl) ⟨Nat.le_of_ble_eq_true rfl, Nat.le_of_ble_eq_true rfl⟩ dL_law_900 (fun H locs hP hD hS => ?_)
  refine lv_icmp_eq (tgt := 1448) hx hb dL_law_903 (by decide) (fun _ => ?_) (fun z => ?_)
  · exact nx X1 Y1 H locs hI1 hP hD hS
  · exact absurd rfl z
end CASES
