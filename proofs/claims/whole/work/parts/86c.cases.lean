section CASES
variable {p : Program} {l : Launch} {e : Env} {s : State} {m : MethodId} {below : List Frame} {meth : Method} {c : Code} {D : va_G} {cA : Nat → ClassId} {b L : Nat} {xs : Nat → Int32} {q : Nat → Nat} {r : Nat → Nat → Nat} {mq : Nat → Nat} {X Y : va_W} {H : Heap} {locs : List Loc} {ls : Array Slot} {i : Nat}
set_option maxRecDepth 100000 in
set_option maxHeartbeats 4000000 in
theorem sg_together (C0 : lw_At p s m meth c b L xs) (hC : CX D cA s) (hL : L ≤ 384) (hi : i + 6 ≤ L) (hl : lv_has ls 4 [(0, .ref b), (1, .ref (q 0)), (2, .ref (mq 0)), (3, .int (nI i))]) (hI : Inv cA q r mq X Y) (hP : va_P D vwCl (X ++ Y) H) (hD : va_D (LA s) (X ++ Y)) (hS : va_S (LA s) s.heap H locs) (nx : Nx p l e s m below meth c D cA b q r mq ls) : W p l e room_1 s m #[Value.ref b] below meth c H locs 122 2965 (lw_Z below #[Value.ref b] s) (F0 m 908 ls []) := by
  obtain ⟨r1, X1, Y1, hx1, hy1, hI1⟩ := st_together l D hI (xs (i + 1)) (xs (i + 2))
  obtain ⟨⟨a1, a2⟩, ⟨fs, f1⟩, ⟨gs, g1⟩⟩ := hI.addr
  obtain ⟨⟨b1, b2⟩, -, -⟩ := hI1.addr
  obtain ⟨hx, hb, hr, hml, hown0, hts, hX, hbl, hlocks, hgv⟩ := id C0
  have hown : s.vm.findClass RL = some m.cls := hown0
  have hA : ∀ q : Nat, s.heap.size ≤ q → LA s q := fun _ h => h
  refine lv_aload_n hx hb dL_law_908 rfl (lv_at hl 1 rfl) ?_
  refine law_arg (k := 1) C0 hL hS hl (by omega) (by decide) dL_law_909 dL_law_910 dL_law_911 dL_law_912 dL_law_913 ?_
  refine law_arg (k := 2) C0 hL hS hl (by omega) (by decide) dL_law_914 dL_law_915 dL_law_916 dL_law_917 dL_law_918 ?_
  refine law_callV (As := [.int (xs (i + 1)), .int (xs (i + 2))]) (rest := []) ⟨hx, hb, hml, hown, hts⟩ hC (hx1.left (Y := Y)) (cwV 2 hts gl_X11_together rfl rfl rfl (by decide +kernel) ⟨Nat.le_of_ble_eq_true rfl, Nat.le_of_ble_eq_true rfl⟩) hP hD hS hA (by rw [List.map_append, List.map_append, b1, a1]) 0 11 rfl (get_appL f1) rfl hl.1 rfl rfl (Nat.le_of_ble_eq_true rfl) ⟨Nat.le_of_ble_eq_true rfl, Nat.le_of_ble_eq_true rfl⟩ dL_law_919 (fun H locs hP hD hS => ?_)
  refine lv_aload_n hx hb dL_law_922 rfl (lv_at hl 2 rfl) ?_
  refine law_arg (k := 1) C0 hL hS hl (by omega) (by decide) dL_law_923 dL_law_924 dL_law_925 dL_law_926 dL_law_927 ?_
  refine law_arg (k := 2) C0 hL hS hl (by omega) (by decide) dL_law_928 dL_law_929 dL_law_930 dL_law_931 dL_law_932 ?_
  refine law_callV (As := [.int (xs (i + 1)), .int (xs (i + 2))]) (rest := [.int r1]) ⟨hx, hb, hml, hown, hts⟩ hC (hy1.right (X := X1)) (cwV 2 hts gl_X12_together rfl rfl rfl (by decide +kernel) ⟨Nat.le_of_ble_eq_true rfl, Nat.le_of_ble_eq_true rfl⟩) hP hD hS hA (by rw [List.map_append, List.map_append, b2, a2]) (X1.length + 0) 12 rfl (get_appR g1) rfl hl.1 rfl rfl (Nat.le_of_ble_eq_true rfl) ⟨Nat.le_of_ble_eq_true rfl, Nat.le_of_ble_eq_true rfl⟩ dL_law_933 (fun H locs hP hD hS => ?_)
  refine lv_icmp_eq (tgt := 1448) hx hb dL_law_936 (by decide) (fun _ => ?_) (fun z => ?_)
  · exact nx X1 Y1 H locs hI1 hP hD hS
  · exact absurd rfl z
set_option maxRecDepth 100000 in
set_option maxHeartbeats 4000000 in
theorem sg_slips (C0 : lw_At p s m meth c b L xs) (hC : CX D cA s) (hL : L ≤ 384) (hi : i + 6 ≤ L) (hl : lv_has ls 4 [(0, .ref b), (1, .ref (q 0)), (2, .ref (mq 0)), (3, .int (nI i))]) (hI : Inv cA q r mq X Y) (hP : va_P D vwCl (X ++ Y) H) (hD : va_D (LA s) (X ++ Y)) (hS : va_S (LA s) s.heap H locs) (nx : Nx p l e s m below meth c D cA b q r mq ls) : W p l e room_1 s m #[Value.ref b] below meth c H locs 122 2965 (lw_Z below #[Value.ref b] s) (F0 m 941 ls []) := by
  obtain ⟨r1, X1, Y1, hx1, hy1, hI1⟩ := st_slips l D hI 
  obtain ⟨⟨a1, a2⟩, ⟨fs, f1⟩, ⟨gs, g1⟩⟩ := hI.addr
  obtain ⟨⟨b1, b2⟩, -, -⟩ := hI1.addr
  obtain ⟨hx, hb, hr, hml, hown0, hts, hX, hbl, hlocks, hgv⟩ := id C0
  have hown : s.vm.findClass RL = some m.cls := hown0
  have hA : ∀ q : Nat, s.heap.size ≤ q → LA s q := fun _ h => h
  refine lv_aload_n hx hb dL_law_941 rfl (lv_at hl 1 rfl) ?_
  refine law_callV (As := []) (rest := []) ⟨hx, hb, hml, hown, hts⟩ hC (hx1.left (Y := Y)) (cwV 0 hts gl_X11_slips rfl rfl rfl (by decide +kernel) ⟨Nat.le_of_ble_eq_true rfl, Nat.le_of_ble_eq_true rfl⟩) hP hD hS hA (by rw [List.map_append, List.map_append, b1, a1]) 0 11 rfl (get_appL f1) rfl hl.1 rfl rfl (Nat.le_of_ble_eq_true rfl) ⟨Nat.le_of_ble_eq_true rfl, Nat.le_of_ble_eq_true rfl⟩ dL_law_942 (fun H locs hP hD hS => ?_)
  refine lv_aload_n hx hb dL_law_945 rfl (lv_at hl 2 rfl) ?_
  refine law_callV (As := []) (rest := [.int r1]) ⟨hx, hb, hml, hown, hts⟩ hC (hy1.right (X := X1)) (cwV 0 hts gl_X12_slips rfl rfl rfl (by decide +kernel) ⟨Nat.le_of_ble_eq_true rfl, Nat.le_of_ble_eq_true rfl⟩) hP hD hS hA (by rw [List.map_append, List.map_append, b2, a2]) (X1.length + 0) 12 rfl (get_appR g1) rfl hl.1 rfl rfl (Nat.le_of_ble_eq_true rfl) ⟨Nat.le_of_ble_eq_true rfl, Nat.le_of_ble_eq_true rfl⟩ dL_law_946 (fun H locs hP hD hS => ?_)
  refine lv_icmp_eq (tgt := 1448) hx hb dL_law_949 (by decide) (fun _ => ?_) (fun z => ?_)
  · exact nx X1 Y1 H locs hI1 hP hD hS
  · exact absurd rfl z
set_option maxRecDepth 100000 in
set_option maxHeartbeats 4000000 in
theorem sg_joined (C0 : lw_At p s m meth c b L xs) (hC : CX D cA s) (hL : L ≤ 384) (hi : i + 6 ≤ L) (hl : lv_has ls 4 [(0, .ref b), (1, .ref (q 0)), (2, .ref (mq 0)), (3, .int (nI i))]) (hI : Inv cA q r mq X Y) (hP : va_P D vwCl (X ++ Y) H) (hD : va_D (LA s) (X ++ Y)) (hS : va_S (LA s) s.heap H locs) (nx : Nx p l e s m below meth c D cA b q r mq ls) : W p l e room_1 s m #[Value.ref b] below meth c H locs 122 2965 (lw_Z below #[Value.ref b] s) (F0 m 954 ls []) := by
  obtain ⟨r1, X1, Y1, hx1, hy1, hI1⟩ := st_joined l D hI (xs (i + 1))
  obtain ⟨⟨a1, a2⟩, ⟨fs, f1⟩, ⟨gs, g1⟩⟩ := hI.addr
  obtain ⟨⟨b1, b2⟩, -, -⟩ := hI1.addr
  obtain ⟨hx, hb, hr, hml, hown0, hts, hX, hbl, hlocks, hgv⟩ := id C0
  have hown : s.vm.findClass RL = some m.cls := hown0
  have hA : ∀ q : Nat, s.heap.size ≤ q → LA s q := fun _ h => h
  refine lv_aload_n hx hb dL_law_954 rfl (lv_at hl 1 rfl) ?_
  refine law_arg (k := 1) C0 hL hS hl (by omega) (by decide) dL_law_955 dL_law_956 dL_law_957 dL_law_958 dL_law_959 ?_
  refine law_callV (As := [.int (xs (i + 1))]) (rest := []) ⟨hx, hb, hml, hown, hts⟩ hC (hx1.left (Y := Y)) (cwV 1 hts gl_X11_joined rfl rfl rfl (by decide +kernel) ⟨Nat.le_of_ble_eq_true rfl, Nat.le_of_ble_eq_true rfl⟩) hP hD hS hA (by rw [List.map_append, List.map_append, b1, a1]) 0 11 rfl (get_appL f1) rfl hl.1 rfl rfl (Nat.le_of_ble_eq_true rfl) ⟨Nat.le_of_ble_eq_true rfl, Nat.le_of_ble_eq_true rfl⟩ dL_law_960 (fun H locs hP hD hS => ?_)
  refine lv_aload_n hx hb dL_law_963 rfl (lv_at hl 2 rfl) ?_
  refine law_arg (k := 1) C0 hL hS hl (by omega) (by decide) dL_law_964 dL_law_965 dL_law_966 dL_law_967 dL_law_968 ?_
  refine law_callV (As := [.int (xs (i + 1))]) (rest := [.int r1]) ⟨hx, hb, hml, hown, hts⟩ hC (hy1.right (X := X1)) (cwV 1 hts gl_X12_joined rfl rfl rfl (by decide +kernel) ⟨Nat.le_of_ble_eq_true rfl, Nat.le_of_ble_eq_true rfl⟩) hP hD hS hA (by rw [List.map_append, List.map_append, b2, a2]) (X1.length + 0) 12 rfl (get_appR g1) rfl hl.1 rfl rfl (Nat.le_of_ble_eq_true rfl) ⟨Nat.le_of_ble_eq_true rfl, Nat.le_of_ble_eq_true rfl⟩ dL_law_969 (fun H locs hP hD hS => ?_)
  refine lv_icmp_eq (tgt := 1448) hx hb dL_law_972 (by decide) (fun _ => ?_) (fun z => ?_)
  · exact nx X1 Y1 H locs hI1 hP hD hS
  · exact absurd rfl z
set_option maxRecDepth 100000 in
set_option maxHeartbeats 4000000 in
theorem sg_whole (C0 : lw_At p s m meth c b L xs) (hC : CX D cA s) (hL : L ≤ 384) (hi : i + 6 ≤ L) (hl : lv_has ls 4 [(0, .ref b), (1, .ref (q 0)), (2, .ref (mq 0)), (3, .int (nI i))]) (hI : Inv cA q r mq X Y) (hP : va_P D vwCl (X ++ Y) H) (hD : va_D (LA s) (X ++ Y)) (hS : va_S (LA s) s.heap H locs) (nx : Nx p l e s m below meth c D cA b q r mq ls) : W p l e room_1 s m #[Value.ref b] below meth c H locs 122 2965 (lw_Z below #[Value.ref b] s) (F0 m 977 ls []) := by
  obtain ⟨r1, X1, Y1, hx1, hy1, hI1⟩ := st_whole l D hI (xs (i + 1))
  obtain ⟨⟨a1, a2⟩, ⟨fs, f1⟩, ⟨gs, g1⟩⟩ := hI.addr
  obtain ⟨⟨b1, b2⟩, -, -⟩ := hI1.addr
  obtain ⟨hx, hb, hr, hml, hown0, hts, hX, hbl, hlocks, hgv⟩ := id C0
  have hown : s.vm.findClass RL = some m.cls := hown0
  have hA : ∀ q : Nat, s.heap.size ≤ q → LA s q := fun _ h => h
  refine lv_aload_n hx hb dL_law_977 rfl (lv_at hl 1 rfl) ?_
  refine law_arg (k := 1) C0 hL hS hl (by omega) (by decide) dL_law_978 dL_law_979 dL_law_980 dL_law_981 dL_law_982 ?_
  refine law_callV (As := [.int (xs (i + 1))]) (rest := []) ⟨hx, hb, hml, hown, hts⟩ hC (hx1.left (Y := Y)) (cwV 1 hts gl_X11_whole rfl rfl rfl (by decide +kernel) ⟨Nat.le_of_ble_eq_true rfl, Nat.le_of_ble_eq_true rfl⟩) hP hD hS hA (by rw [List.map_append, List.map_append, b1, a1]) 0 11 rfl (get_appL f1) rfl hl.1 rfl rfl (Nat.le_of_ble_eq_true rfl) ⟨Nat.le_of_ble_eq_true rfl, Nat.le_of_ble_eq_true rfl⟩ dL_law_983 (fun H locs hP hD hS => ?_)
  refine lv_aload_n hx hb dL_law_986 rfl (lv_at hl 2 rfl) ?_
  refine law_arg (k := 1) C0 hL hS hl (by omega) (by decide) dL_law_987 dL_law_988 dL_law_989 dL_law_990 dL_law_991 ?_
  refine law_callV (As := [.int (xs (i + 1))]) (rest := [.int r1]) ⟨hx, hb, hml, hown, hts⟩ hC (hy1.right (X := X1)) (cwV 1 hts gl_X12_whole rfl rfl rfl (by decide +kernel) ⟨Nat.le_of_ble_eq_true rfl, Nat.le_of_ble_eq_true rfl⟩) hP hD hS hA (by rw [List.map_append, List.map_append, b2, a2]) (X1.length + 0) 12 rfl (get_appR g1) rfl hl.1 rfl rfl (Nat.le_of_ble_eq_true rfl) ⟨Nat.le_of_ble_eq_true rfl, Nat.le_of_ble_eq_true rfl⟩ dL_law_992 (fun H locs hP hD hS => ?_)
  refine lv_icmp_eq (tgt := 1448) hx hb dL_law_995 (by decide) (fun _ => ?_) (fun z => ?_)
  · exact nx X1 Y1 H locs hI1 hP hD hS
  · exact absurd rfl z
set_option maxRecDepth 100000 in
set_option maxHeartbeats 4000000 in
theorem sg_tale (C0 : lw_At p s m meth c b L xs) (hC : CX D cA s) (hL : L ≤ 384) (hi : i + 6 ≤ L) (hl : lv_has ls 4 [(0, .ref b), (1, .ref (q 0)), (2, .ref (mq 0)), (3, .int (nI i))]) (hI : Inv cA q r mq X Y) (hP : va_P D vwCl (X ++ Y) H) (hD : va_D (LA s) (X ++ Y)) (hS : va_S (LA s) s.heap H locs) (nx : Nx p l e s m below meth c D cA b q r mq ls) : W p l e room_1 s m #[Value.ref b] below meth c H locs 122 2965 (lw_Z below #[Value.ref b] s) (F0 m 1000 ls []) := by
  obtain ⟨r1, X1, Y1, hx1, hy1, hI1⟩ := st_tale l D hI (xs (i + 1)) (xs (i + 2)) (xs (i + 3)) (xs (i + 4)) (xs (i + 5))
  obtain ⟨⟨a1, a2⟩, ⟨fs, f1⟩, ⟨gs, g1⟩⟩ := hI.addr
  obtain ⟨⟨b1, b2⟩, -, -⟩ := hI1.addr
  obtain ⟨hx, hb, hr, hml, hown0, hts, hX, hbl, hlocks, hgv⟩ := id C0
  have hown : s.vm.findClass RL = some m.cls := hown0
  have hA : ∀ q : Nat, s.heap.size ≤ q → LA s q := fun _ h => h
  refine lv_aload_n hx hb dL_law_1000 rfl (lv_at hl 1 rfl) ?_
  refine law_arg (k := 1) C0 hL hS hl (by omega) (by decide) dL_law_1001 dL_law_1002 dL_law_1003 dL_law_1004 dL_law_1005 ?_
  refine law_arg (k := 2) C0 hL hS hl (by omega) (by decide) dL_law_1006 dL_law_1007 dL_law_1008 dL_law_1009 dL_law_1010 ?_
  refine law_arg (k := 3) C0 hL hS hl (by omega) (by decide) dL_law_1011 dL_law_1012 dL_law_1013 dL_law_1014 dL_law_1015 ?_
  refine law_arg (k := 4) C0 hL hS hl (by omega) (by decide) dL_law_1016 dL_law_1017 dL_law_1018 dL_law_1019 dL_law_1020 ?_
  refine law_arg (k := 5) C0 hL hS hl (by omega) (by decide) dL_law_1021 dL_law_1022 dL_law_1023 dL_law_1024 dL_law_1025 ?_
  refine law_callV (As := [.int (xs (i + 1)), .int (xs (i + 2)), .int (xs (i + 3)), .int (xs (i + 4)), .int (xs (i + 5))]) (rest := []) ⟨hx, hb, hml, hown, hts⟩ hC (hx1.left (Y := Y)) (cwV 5 hts gl_X11_tale rfl rfl rfl (by decide +kernel) ⟨Nat.le_of_ble_eq_true rfl, Nat.le_of_ble_eq_true rfl⟩) hP hD hS hA (by rw [List.map_append, List.map_append, b1, a1]) 0 11 rfl (get_appL f1) rfl hl.1 rfl rfl (Nat.le_of_ble_eq_true rfl) ⟨Nat.le_of_ble_eq_true rfl, Nat.le_of_ble_eq_true rfl⟩ dL_law_1026 (fun H locs hP hD hS => ?_)
  refine lv_aload_n hx hb dL_law_1029 rfl (lv_at hl 2 rfl) ?_
  refine law_arg (k := 1) C0 hL hS hl (by omega) (by decide) dL_law_1030 dL_law_1031 dL_law_1032 dL_law_1033 dL_law_1034 ?_
  refine law_arg (k := 2) C0 hL hS hl (by omega) (by decide) dL_law_1035 dL_law_1036 dL_law_1037 dL_law_1038 dL_law_1039 ?_
  refine law_arg (k := 3) C0 hL hS hl (by omega) (by decide) dL_law_1040 dL_law_1041 dL_law_1042 dL_law_1043 dL_law_1044 ?_
  refine law_arg (k := 4) C0 hL hS hl (by omega) (by decide) dL_law_1045 dL_law_1046 dL_law_1047 dL_law_1048 dL_law_1049 ?_
  refine law_arg (k := 5) C0 hL hS hl (by omega) (by decide) dL_law_1050 dL_law_1051 dL_law_1052 dL_law_1053 dL_law_1054 ?_
  refine law_callV (As := [.int (xs (i + 1)), .int (xs (i + 2)), .int (xs (i + 3)), .int (xs (i + 4)), .int (xs (i + 5))]) (rest := [.int r1]) ⟨hx, hb, hml, hown, hts⟩ hC (hy1.right (X := X1)) (cwV 5 hts gl_X12_tale rfl rfl rfl (by decide +kernel) ⟨Nat.le_of_ble_eq_true rfl, Nat.le_of_ble_eq_true rfl⟩) hP hD hS hA (by rw [List.map_append, List.map_append, b2, a2]) (X1.length + 0) 12 rfl (get_appR g1) rfl hl.1 rfl rfl (Nat.le_of_ble_eq_true rfl) ⟨Nat.le_of_ble_eq_true rfl, Nat.le_of_ble_eq_true rfl⟩ dL_law_1055 (fun H locs hP hD hS => ?_)
  refine lv_icmp_eq (tgt := 1448) hx hb dL_law_1058 (by decide) (fun _ => ?_) (fun z => ?_)
  · exact nx X1 Y1 H locs hI1 hP hD hS
  · exact absurd rfl z
set_option maxRecDepth 100000 in
set_option maxHeartbeats 4000000 in
theorem sg_known (C0 : lw_At p s m meth c b L xs) (hC : CX D cA s) (hL : L ≤ 384) (hi : i + 6 ≤ L) (hl : lv_has ls 4 [(0, .ref b), (1, .ref (q 0)), (2, .ref (mq 0)), (3, .int (nI i))]) (hI : Inv cA q r mq X Y) (hP : va_P D vwCl (X ++ Y) H) (hD : va_D (LA s) (X ++ Y)) (hS : va_S (LA s) s.heap H locs) (nx : Nx p l e s m below meth c D cA b q r mq ls) : W p l e room_1 s m #[Value.ref b] below meth c H locs 122 2965 (lw_Z below #[Value.ref b] s) (F0 m 1063 ls []) := by
  obtain ⟨r1, X1, Y1, hx1, hy1, hI1⟩ := st_known l D hI (xs (i + 1))
  obtain ⟨⟨a1, a2⟩, ⟨fs, f1⟩, ⟨gs, g1⟩⟩ := hI.addr
  obtain ⟨⟨b1, b2⟩, -, -⟩ := hI1.addr
  obtain ⟨hx, hb, hr, hml, hown0, hts, hX, hbl, hlocks, hgv⟩ := id C0
  have hown : s.vm.findClass RL = some m.cls := hown0
  have hA : ∀ q : Nat, s.heap.size ≤ q → LA s q := fun _ h => h
  refine lv_aload_n hx hb dL_law_1063 rfl (lv_at hl 1 rfl) ?_
  refine law_arg (k := 1) C0 hL hS hl (by omega) (by decide) dL_law_1064 dL_law_1065 dL_law_1066 dL_law_1067 dL_law_1068 ?_
  refine law_callV (As := [.int (xs (i + 1))]) (rest := []) ⟨hx, hb, hml, hown, hts⟩ hC (hx1.left (Y := Y)) (cwV 1 hts gl_X11_known rfl rfl rfl (by decide +kernel) ⟨Nat.le_of_ble_eq_true rfl, Nat.le_of_ble_eq_true rfl⟩) hP hD hS hA (by rw [List.map_append, List.map_append, b1, a1]) 0 11 rfl (get_appL f1) rfl hl.1 rfl rfl (Nat.le_of_ble_eq_true rfl) ⟨Nat.le_of_ble_eq_true rfl, Nat.le_of_ble_eq_true rfl⟩ dL_law_1069 (fun H locs hP hD hS => ?_)
  refine lv_aload_n hx hb dL_law_1072 rfl (lv_at hl 2 rfl) ?_
  refine law_arg (k := 1) C0 hL hS hl (by omega) (by decide) dL_law_1073 dL_law_1074 dL_law_1075 dL_law_1076 dL_law_1077 ?_
  refine law_callV (As := [.int (xs (i + 1))]) (rest := [.int r1]) ⟨hx, hb, hml, hown, hts⟩ hC (hy1.right (X := X1)) (cwV 1 hts gl_X12_known rfl rfl rfl (by decide +kernel) ⟨Nat.le_of_ble_eq_true rfl, Nat.le_of_ble_eq_true rfl⟩) hP hD hS hA (by rw [List.map_append, List.map_append, b2, a2]) (X1.length + 0) 12 rfl (get_appR g1) rfl hl.1 rfl rfl (Nat.le_of_ble_eq_true rfl) ⟨Nat.le_of_ble_eq_true rfl, Nat.le_of_ble_eq_true rfl⟩ dL_law_1078 (fun H locs hP hD hS => ?_)
  refine lv_icmp_eq (tgt := 1448) hx hb dL_law_1081 (by decide) (fun _ => ?_) (fun z => ?_)
  · exact nx X1 Y1 H locs hI1 hP hD hS
  · exact absurd rfl z
set_option maxRecDepth 100000 in
set_option maxHeartbeats 4000000 in
theorem sg_next (C0 : lw_At p s m meth c b L xs) (hC : CX D cA s) (hL : L ≤ 384) (hi : i + 6 ≤ L) (hl : lv_has ls 4 [(0, .ref b), (1, .ref (q 0)), (2, .ref (mq 0)), (3, .int (nI i))]) (hI : Inv cA q r mq X Y) (hP : va_P D vwCl (X ++ Y) H) (hD : va_D (LA s) (X ++ Y)) (hS : va_S (LA s) s.heap H locs) (nx : Nx p l e s m below meth c D cA b q r mq ls) : W p l e room_1 s m #[Value.ref b] below meth c H locs 122 2965 (lw_Z below #[Value.ref b] s) (F0 m 1086 ls []) := by
  obtain ⟨r1, X1, Y1, hx1, hy1, hI1⟩ := st_next l D hI (xs (i + 1)) (xs (i + 2))
  obtain ⟨⟨a1, a2⟩, ⟨fs, f1⟩, ⟨gs, g1⟩⟩ := hI.addr
  obtain ⟨⟨b1, b2⟩, -, -⟩ := hI1.addr
  obtain ⟨hx, hb, hr, hml, hown0, hts, hX, hbl, hlocks, hgv⟩ := id C0
  have hown : s.vm.findClass RL = some m.cls := hown0
  have hA : ∀ q : Nat, s.heap.size ≤ q → LA s q := fun _ h => h
  refine lv_aload_n hx hb dL_law_1086 rfl (lv_at hl 1 rfl) ?_
  refine law_arg (k := 1) C0 hL hS hl (by omega) (by decide) dL_law_1087 dL_law_1088 dL_law_1089 dL_law_1090 dL_law_1091 ?_
  refine law_arg (k := 2) C0 hL hS hl (by omega) (by decide) dL_law_1092 dL_law_1093 dL_law_1094 dL_law_1095 dL_law_1096 ?_
  refine law_callV (As := [.int (xs (i + 1)), .int (xs (i + 2))]) (rest := []) ⟨hx, hb, hml, hown, hts⟩ hC (hx1.left (Y := Y)) (cwV 2 hts gl_X11_next rfl rfl rfl (by decide +kernel) ⟨Nat.le_of_ble_eq_true rfl, Nat.le_of_ble_eq_true rfl⟩) hP hD hS hA (by rw [List.map_append, List.map_append, b1, a1]) 0 11 rfl (get_appL f1) rfl hl.1 rfl rfl (Nat.le_of_ble_eq_true rfl) ⟨Nat.le_of_ble_eq_true rfl, Nat.le_of_ble_eq_true rfl⟩ dL_law_1097 (fun H locs hP hD hS => ?_)
  refine lv_aload_n hx hb dL_law_1100 rfl (lv_at hl 2 rfl) ?_
  refine law_arg (k := 1) C0 hL hS hl (by omega) (by decide) dL_law_1101 dL_law_1102 dL_law_1103 dL_law_1104 dL_law_1105 ?_
  refine law_arg (k := 2) C0 hL hS hl (by omega) (by decide) dL_law_1106 dL_law_1107 dL_law_1108 dL_law_1109 dL_law_1110 ?_
  refine law_callV (As := [.int (xs (i + 1)), .int (xs (i + 2))]) (rest := [.int r1]) ⟨hx, hb, hml, hown, hts⟩ hC (hy1.right (X := X1)) (cwV 2 hts gl_X12_next rfl rfl rfl (by decide +kernel) ⟨Nat.le_of_ble_eq_true rfl, Nat.le_of_ble_eq_true rfl⟩) hP hD hS hA (by rw [List.map_append, List.map_append, b2, a2]) (X1.length + 0) 12 rfl (get_appR g1) rfl hl.1 rfl rfl (Nat.le_of_ble_eq_true rfl) ⟨Nat.le_of_ble_eq_true rfl, Nat.le_of_ble_eq_true rfl⟩ dL_law_1111 (fun H locs hP hD hS => ?_)
  refine lv_icmp_eq (tgt := 1448) hx hb dL_law_1114 (by decide) (fun _ => ?_) (fun z => ?_)
  · exact nx X1 Y1 H locs hI1 hP hD hS
  · exact absurd rfl z
set_option maxRecDepth 100000 in
set_option maxHeartbeats 4000000 in
theorem sg_even (C0 : lw_At p s m meth c b L xs) (hC : CX D cA s) (hL : L ≤ 384) (hi : i + 6 ≤ L) (hl : lv_has ls 4 [(0, .ref b), (1, .ref (q 0)), (2, .ref (mq 0)), (3, .int (nI i))]) (hI : Inv cA q r mq X Y) (hP : va_P D vwCl (X ++ Y) H) (hD : va_D (LA s) (X ++ Y)) (hS : va_S (LA s) s.heap H locs) (nx : Nx p l e s m below meth c D cA b q r mq ls) : W p l e room_1 s m #[Value.ref b] below meth c H locs 122 2965 (lw_Z below #[Value.ref b] s) (F0 m 1119 ls []) := by
  obtain ⟨r1, X1, Y1, hx1, hy1, hI1⟩ := st_even l D hI 
  obtain ⟨⟨a1, a2⟩, ⟨fs, f1⟩, ⟨gs, g1⟩⟩ := hI.addr
  obtain ⟨⟨b1, b2⟩, -, -⟩ := hI1.addr
  obtain ⟨hx, hb, hr, hml, hown0, hts, hX, hbl, hlocks, hgv⟩ := id C0
  have hown : s.vm.findClass RL = some m.cls := hown0
  have hA : ∀ q : Nat, s.heap.size ≤ q → LA s q := fun _ h => h
  refine lv_aload_n hx hb dL_law_1119 rfl (lv_at hl 1 rfl) ?_
  refine law_callV (As := []) (rest := []) ⟨hx, hb, hml, hown, hts⟩ hC (hx1.left (Y := Y)) (cwV 0 hts gl_X11_even rfl rfl rfl (by decide +kernel) ⟨Nat.le_of_ble_eq_true rfl, Nat.le_of_ble_eq_true rfl⟩) hP hD hS hA (by rw [List.map_append, List.map_append, b1, a1]) 0 11 rfl (get_appL f1) rfl hl.1 rfl rfl (Nat.le_of_ble_eq_true rfl) ⟨Nat.le_of_ble_eq_true rfl, Nat.le_of_ble_eq_true rfl⟩ dL_law_1120 (fun H locs hP hD hS => ?_)
  refine lv_aload_n hx hb dL_law_1123 rfl (lv_at hl 2 rfl) ?_
  refine law_callV (As := []) (rest := [.int r1]) ⟨hx, hb, hml, hown, hts⟩ hC (hy1.right (X := X1)) (cwV 0 hts gl_X12_even rfl rfl rfl (by decide +kernel) ⟨Nat.le_of_ble_eq_true rfl, Nat.le_of_ble_eq_true rfl⟩) hP hD hS hA (by rw [List.map_append, List.map_append, b2, a2]) (X1.length + 0) 12 rfl (get_appR g1) rfl hl.1 rfl rfl (Nat.le_of_ble_eq_true rfl) ⟨Nat.le_of_ble_eq_true rfl, Nat.le_of_ble_eq_true rfl⟩ dL_law_1124 (fun H locs hP hD hS => ?_)
  refine lv_icmp_eq (tgt := 1448) hx hb dL_law_1127 (by decide) (fun _ => ?_) (fun z => ?_)
  · exact nx X1 Y1 H locs hI1 hP hD hS
  · exact absurd rfl z
set_option maxRecDepth 100000 in
set_option maxHeartbeats 4000000 in
theorem sg_story (C0 : lw_At p s m meth c b L xs) (hC : CX D cA s) (hL : L ≤ 384) (hi : i + 6 ≤ L) (hl : lv_has ls 4 [(0, .ref b), (1, .ref (q 0)), (2, .ref (mq 0)), (3, .int (nI i))]) (hI : Inv cA q r mq X Y) (hP : va_P D vwCl (X ++ Y) H) (hD : va_D (LA s) (X ++ Y)) (hS : va_S (LA s) s.heap H locs) (nx : Nx p l e s m below meth c D cA b q r mq ls) : W p l e room_1 s m #[Value.ref b] below meth c H locs 122 2965 (lw_Z below #[Value.ref b] s) (F0 m 1132 ls []) := by
  obtain ⟨r1, X1, Y1, hx1, hy1, hI1⟩ := st_story l D hI (xs (i + 1)) (xs (i + 2))
  obtain ⟨⟨a1, a2⟩, ⟨fs, f1⟩, ⟨gs, g1⟩⟩ := hI.addr
  obtain ⟨⟨b1, b2⟩, -, -⟩ := hI1.addr
  obtain ⟨hx, hb, hr, hml, hown0, hts, hX, hbl, hlocks, hgv⟩ := id C0
  have hown : s.vm.findClass RL = some m.cls := hown0
  have hA : ∀ q : Nat, s.heap.size ≤ q → LA s q := fun _ h => h
  refine lv_aload_n hx hb dL_law_1132 rfl (lv_at hl 1 rfl) ?_
  refine law_arg (k := 1) C0 hL hS hl (by omega) (by decide) dL_law_1133 dL_law_1134 dL_law_1135 dL_law_1136 dL_law_1137 ?_
  refine law_arg (k := 2) C0 hL hS hl (by omega) (by decide) dL_law_1138 dL_law_1139 dL_law_1140 dL_law_1141 dL_law_1142 ?_
  refine law_callV (As := [.int (xs (i + 1)), .int (xs (i + 2))]) (rest := []) ⟨hx, hb, hml, hown, hts⟩ hC (hx1.left (Y := Y)) (cwV 2 hts gl_X11_story rfl rfl rfl (by decide +kernel) ⟨Nat.le_of_ble_eq_true rfl, Nat.le_of_ble_eq_true rfl⟩) hP hD hS hA (by rw [List.map_append, List.map_append, b1, a1]) 0 11 rfl (get_appL f1) rfl hl.1 rfl rfl (Nat.le_of_ble_eq_true rfl) ⟨Nat.le_of_ble_eq_true rfl, Nat.le_of_ble_eq_true rfl⟩ dL_law_1143 (fun H locs hP hD hS => ?_)
  refine lv_aload_n hx hb dL_law_1146 rfl (lv_at hl 2 rfl) ?_
  refine law_arg (k := 1) C0 hL hS hl (by omega) (by decide) dL_law_1147 dL_law_1148 dL_law_1149 dL_law_1150 dL_law_1151 ?_
  refine law_arg (k := 2) C0 hL hS hl (by omega) (by decide) dL_law_1152 dL_law_1153 dL_law_1154 dL_law_1155 dL_law_1156 ?_
  refine law_callV (As := [.int (xs (i + 1)), .int (xs (i + 2))]) (rest := [.long r1]) ⟨hx, hb, hml, hown, hts⟩ hC (hy1.right (X := X1)) (cwV 2 hts gl_X12_story rfl rfl rfl (by decide +kernel) ⟨Nat.le_of_ble_eq_true rfl, Nat.le_of_ble_eq_true rfl⟩) hP hD hS hA (by rw [List.map_append, List.map_append, b2, a2]) (X1.length + 0) 12 rfl (get_appR g1) rfl hl.1 rfl rfl (Nat.le_of_ble_eq_true rfl) ⟨Nat.le_of_ble_eq_true rfl, Nat.le_of_ble_eq_true rfl⟩ dL_law_1157 (fun H locs hP hD hS => ?_)
  refine W.lcmp hx hb dL_law_1160 ?_
  refine lv_if_eq (tgt := 1448) hx hb dL_law_1161 (by decide) (fun _ => ?_) (fun z => ?_)
  · exact nx X1 Y1 H locs hI1 hP hD hS
  · exact absurd ((lg_cmp_eq _ _).mpr rfl) z
set_option maxRecDepth 100000 in
set_option maxHeartbeats 4000000 in
theorem sg_chance (C0 : lw_At p s m meth c b L xs) (hC : CX D cA s) (hL : L ≤ 384) (hi : i + 6 ≤ L) (hl : lv_has ls 4 [(0, .ref b), (1, .ref (q 0)), (2, .ref (mq 0)), (3, .int (nI i))]) (hI : Inv cA q r mq X Y) (hP : va_P D vwCl (X ++ Y) H) (hD : va_D (LA s) (X ++ Y)) (hS : va_S (LA s) s.heap H locs) (nx : Nx p l e s m below meth c D cA b q r mq ls) : W p l e room_1 s m #[Value.ref b] below meth c H locs 122 2965 (lw_Z below #[Value.ref b] s) (F0 m 1166 ls []) := by
  obtain ⟨r1, X1, Y1, hx1, hy1, hI1⟩ := st_chance l D hI (xs (i + 1)) (xs (i + 2)) (xs (i + 3))
  obtain ⟨⟨a1, a2⟩, ⟨fs, f1⟩, ⟨gs, g1⟩⟩ := hI.addr
  obtain ⟨⟨b1, b2⟩, -, -⟩ := hI1.addr
  obtain ⟨hx, hb, hr, hml, hown0, hts, hX, hbl, hlocks, hgv⟩ := id C0
  have hown : s.vm.findClass RL = some m.cls := hown0
  have hA : ∀ q : Nat, s.heap.size ≤ q → LA s q := fun _ h => h
  refine lv_aload_n hx hb dL_law_1166 rfl (lv_at hl 1 rfl) ?_
  refine law_arg (k := 1) C0 hL hS hl (by omega) (by decide) dL_law_1167 dL_law_1168 dL_law_1169 dL_law_1170 dL_law_1171 ?_
  refine law_arg (k := 2) C0 hL hS hl (by omega) (by decide) dL_law_1172 dL_law_1173 dL_law_1174 dL_law_1175 dL_law_1176 ?_
  refine law_arg (k := 3) C0 hL hS hl (by omega) (by decide) dL_law_1177 dL_law_1178 dL_law_1179 dL_law_1180 dL_law_1181 ?_
  refine law_callV (As := [.int (xs (i + 1)), .int (xs (i + 2)), .int (xs (i + 3))]) (rest := []) ⟨hx, hb, hml, hown, hts⟩ hC (hx1.left (Y := Y)) (cwV 3 hts gl_X11_chance rfl rfl rfl (by decide +kernel) ⟨Nat.le_of_ble_eq_true rfl, Nat.le_of_ble_eq_true rfl⟩) hP hD hS hA (by rw [List.map_append, List.map_append, b1, a1]) 0 11 rfl (get_appL f1) rfl hl.1 rfl rfl (Nat.le_of_ble_eq_true rfl) ⟨Nat.le_of_ble_eq_true rfl, Nat.le_of_ble_eq_true rfl⟩ dL_law_1182 (fun H locs hP hD hS => ?_)
  refine lv_aload_n hx hb dL_law_1185 rfl (lv_at hl 2 rfl) ?_
  refine law_arg (k := 1) C0 hL hS hl (by omega) (by decide) dL_law_1186 dL_law_1187 dL_law_1188 dL_law_1189 dL_law_1190 ?_
  refine law_arg (k := 2) C0 hL hS hl (by omega) (by decide) dL_law_1191 dL_law_1192 dL_law_1193 dL_law_1194 dL_law_1195 ?_
  refine law_arg (k := 3) C0 hL hS hl (by omega) (by decide) dL_law_1196 dL_law_1197 dL_law_1198 dL_law_1199 dL_law_1200 ?_
  refine law_callV (As := [.int (xs (i + 1)), .int (xs (i + 2)), .int (xs (i + 3))]) (rest := [.int r1]) ⟨hx, hb, hml, hown, hts⟩ hC (hy1.right (X := X1)) (cwV 3 hts gl_X12_chance rfl rfl rfl (by decide +kernel) ⟨Nat.le_of_ble_eq_true rfl, Nat.le_of_ble_eq_true rfl⟩) hP hD hS hA (by rw [List.map_append, List.map_append, b2, a2]) (X1.length + 0) 12 rfl (get_appR g1) rfl hl.1 rfl rfl (Nat.le_of_ble_eq_true rfl) ⟨Nat.le_of_ble_eq_true rfl, Nat.le_of_ble_eq_true rfl⟩ dL_law_1201 (fun H locs hP hD hS => ?_)
  refine lv_icmp_eq (tgt := 1448) hx hb dL_law_1204 (by decide) (fun _ => ?_) (fun z => ?_)
  · exact nx X1 Y1 H locs hI1 hP hD hS
  · exact absurd rfl z
set_option maxRecDepth 100000 in
set_option maxHeartbeats 4000000 in
theorem sg_dug (C0 : lw_At p s m meth c b L xs) (hC : CX D cA s) (hL : L ≤ 384) (hi : i + 6 ≤ L) (hl : lv_has ls 4 [(0, .ref b), (1, .ref (q 0)), (2, .ref (mq 0)), (3, .int (nI i))]) (hI : Inv cA q r mq X Y) (hP : va_P D vwCl (X ++ Y) H) (hD : va_D (LA s) (X ++ Y)) (hS : va_S (LA s) s.heap H locs) (nx : Nx p l e s m below meth c D cA b q r mq ls) : W p l e room_1 s m #[Value.ref b] below meth c H locs 122 2965 (lw_Z below #[Value.ref b] s) (F0 m 1209 ls []) := by
  obtain ⟨r1, X1, Y1, hx1, hy1, hI1⟩ := st_dug l D hI (xs (i + 1)) (xs (i + 2))
  obtain ⟨⟨a1, a2⟩, ⟨fs, f1⟩, ⟨gs, g1⟩⟩ := hI.addr
  obtain ⟨⟨b1, b2⟩, -, -⟩ := hI1.addr
  obtain ⟨hx, hb, hr, hml, hown0, hts, hX, hbl, hlocks, hgv⟩ := id C0
  have hown : s.vm.findClass RL = some m.cls := hown0
  have hA : ∀ q : Nat, s.heap.size ≤ q → LA s q := fun _ h => h
  refine lv_aload_n hx hb dL_law_1209 rfl (lv_at hl 1 rfl) ?_
  refine law_arg (k := 1) C0 hL hS hl (by omega) (by decide) dL_law_1210 dL_law_1211 dL_law_1212 dL_law_1213 dL_law_1214 ?_
  refine law_arg (k := 2) C0 hL hS hl (by omega) (by decide) dL_law_1215 dL_law_1216 dL_law_1217 dL_law_1218 dL_law_1219 ?_
  refine law_callV (As := [.int (xs (i + 1)), .int (xs (i + 2))]) (rest := []) ⟨hx, hb, hml, hown, hts⟩ hC (hx1.left (Y := Y)) (cwV 2 hts gl_X11_dug rfl rfl rfl (by decide +kernel) ⟨Nat.le_of_ble_eq_true rfl, Nat.le_of_ble_eq_true rfl⟩) hP hD hS hA (by rw [List.map_append, List.map_append, b1, a1]) 0 11 rfl (get_appL f1) rfl hl.1 rfl rfl (Nat.le_of_ble_eq_true rfl) ⟨Nat.le_of_ble_eq_true rfl, Nat.le_of_ble_eq_true rfl⟩ dL_law_1220 (fun H locs hP hD hS => ?_)
  refine lv_aload_n hx hb dL_law_1223 rfl (lv_at hl 2 rfl) ?_
  refine law_arg (k := 1) C0 hL hS hl (by omega) (by decide) dL_law_1224 dL_law_1225 dL_law_1226 dL_law_1227 dL_law_1228 ?_
  refine law_arg (k := 2) C0 hL hS hl (by omega) (by decide) dL_law_1229 dL_law_1230 dL_law_1231 dL_law_1232 dL_law_1233 ?_
  refine law_callV (As := [.int (xs (i + 1)), .int (xs (i + 2))]) (rest := [.int r1]) ⟨hx, hb, hml, hown, hts⟩ hC (hy1.right (X := X1)) (cwV 2 hts gl_X12_dug rfl rfl rfl (by decide +kernel) ⟨Nat.le_of_ble_eq_true rfl, Nat.le_of_ble_eq_true rfl⟩) hP hD hS hA (by rw [List.map_append, List.map_append, b2, a2]) (X1.length + 0) 12 rfl (get_appR g1) rfl hl.1 rfl rfl (Nat.le_of_ble_eq_true rfl) ⟨Nat.le_of_ble_eq_true rfl, Nat.le_of_ble_eq_true rfl⟩ dL_law_1234 (fun H locs hP hD hS => ?_)
  refine lv_icmp_eq (tgt := 1448) hx hb dL_law_1237 (by decide) (fun _ => ?_) (fun z => ?_)
  · exact nx X1 Y1 H locs hI1 hP hD hS
  · exact absurd rfl z
end CASES
