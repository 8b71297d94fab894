theorem and63 (y : Int32) : ∃ j : Nat, j < 64 ∧ y &&& 63 = nI j := by
  refine ⟨(y.toBitVec &&& 63#32).toNat, ?_, ?_⟩
  · rw [BitVec.toNat_and]
    exact Nat.lt_of_le_of_lt Nat.and_le_right (by decide)
  · apply Int32.toBitVec_inj.mp
    rw [Int32.toBitVec_and]
    show y.toBitVec &&& 63#32 = BitVec.ofNat 32 (y.toBitVec &&& 63#32).toNat
    rw [BitVec.ofNat_toNat, BitVec.setWidth_eq]
set_option maxRecDepth 100000 in
set_option maxHeartbeats 8000000 in
/-- the switch: every case comes to the loop's next turn -/
theorem law_switch {p : Program} {l : Launch} {e : Env} {s : State} {m : MethodId} {below : List Frame} {meth : Method} {c : Code} {D : va_G} {cA : Nat → ClassId} {b L : Nat} {xs : Nat → Int32} {q : Nat → Nat} {r : Nat → Nat → Nat} {mq : Nat → Nat} {X Y : va_W} {H : Heap} {locs : List Loc} {ls : Array Slot} {i j : Nat} (C0 : lw_At p s m meth c b L xs) (hC : CX D cA s) (hL : L ≤ 384) (hi : i + 6 ≤ L) (hl : lv_has ls 4 [(0, .ref b), (1, .ref (q 0)), (2, .ref (mq 0)), (3, .int (nI i))]) (hI : Inv cA q r mq X Y) (hP : va_P D vwCl (X ++ Y) H) (hD : va_D (LA s) (X ++ Y)) (hS : va_S (LA s) s.heap H locs) (nx : Nx p l e s m below meth c D cA b q r mq ls) (hj : j < 64) : W p l e room_1 s m #[Value.ref b] below meth c H locs 122 2965 (lw_Z below #[Value.ref b] s) (F0 m 33 ls [.int (nI j)]) := by
  obtain ⟨hx, hb, hr, hml, hown, hts, hX, hbl, hlocks, hgv⟩ := id C0
  by_cases h40 : 40 < j
  · exact lv_tableOut (tgt := 1448) hx hb dL_law_33 (Or.inr (by rw [nI_int (by omega)]; omega)) (by decide) (nx X Y H locs hI hP hD hS)
  · rcases (show j = 0 ∨ j = 1 ∨ j = 2 ∨ j = 3 ∨ j = 4 ∨ j = 5 ∨ j = 6 ∨ j = 7 ∨ j = 8 ∨ j = 9 ∨ j = 10 ∨ j = 11 ∨ j = 12 ∨ j = 13 ∨ j = 14 ∨ j = 15 ∨ j = 16 ∨ j = 17 ∨ j = 18 ∨ j = 19 ∨ j = 20 ∨ j = 21 ∨ j = 22 ∨ j = 23 ∨ j = 24 ∨ j = 25 ∨ j = 26 ∨ j = 27 ∨ j = 28 ∨ j = 29 ∨ j = 30 ∨ j = 31 ∨ j = 32 ∨ j = 33 ∨ j = 34 ∨ j = 35 ∨ j = 36 ∨ j = 37 ∨ j = 38 ∨ j = 39 ∨ j = 40 by omega) with rfl | rfl | rfl | rfl | rfl | rfl | rfl | rfl | rfl | rfl | rfl | rfl | rfl | rfl | rfl | rfl | rfl | rfl | rfl | rfl | rfl | rfl | rfl | rfl | rfl | rfl | rfl | rfl | rfl | rfl | rfl | rfl | rfl | rfl | rfl | rfl | rfl | rfl | rfl | rfl | rfl
    · exact lv_tableIn (off := 179) (tgt := 212) hx hb dL_law_33 (by decide) (by decide) rfl (by decide) (sg_type C0 hC hL hi hl hI hP hD hS nx)
    · exact lv_tableIn (off := 242) (tgt := 275) hx hb dL_law_33 (by decide) (by decide) rfl (by decide) (sg_clear C0 hC hL hi hl hI hP hD hS nx)
    · exact lv_tableIn (off := 255) (tgt := 288) hx hb dL_law_33 (by decide) (by decide) rfl (by decide) (sg_ocean C0 hC hL hi hl hI hP hD hS nx)
    · exact lv_tableIn (off := 268) (tgt := 301) hx hb dL_law_33 (by decide) (by decide) rfl (by decide) (sg_depth C0 hC hL hi hl hI hP hD hS nx)
    · exact lv_tableIn (off := 291) (tgt := 324) hx hb dL_law_33 (by decide) (by decide) rfl (by decide) (sg_tune C0 hC hL hi hl hI hP hD hS nx)
    · exact lv_tableIn (off := 324) (tgt := 357) hx hb dL_law_33 (by decide) (by decide) rfl (by decide) (sg_time C0 hC hL hi hl hI hP hD hS nx)
    · exact lv_tableIn (off := 357) (tgt := 390) hx hb dL_law_33 (by decide) (by decide) rfl (by decide) (sg_height C0 hC hL hi hl hI hP hD hS nx)
    · exact lv_tableIn (off := 400) (tgt := 433) hx hb dL_law_33 (by decide) (by decide) rfl (by decide) (sg_book C0 hC hL hi hl hI hP hD hS nx)
    · exact lv_tableIn (off := 463) (tgt := 496) hx hb dL_law_33 (by decide) (by decide) rfl (by decide) (sg_begins C0 hC hL hi hl hI hP hD hS nx)
    · exact lv_tableIn (off := 496) (tgt := 529) hx hb dL_law_33 (by decide) (by decide) rfl (by decide) (sg_ways C0 hC hL hi hl hI hP hD hS nx)
    · exact lv_tableIn (off := 519) (tgt := 552) hx hb dL_law_33 (by decide) (by decide) rfl (by decide) (sg_whence C0 hC hL hi hl hI hP hD hS nx)
    · exact lv_tableIn (off := 542) (tgt := 575) hx hb dL_law_33 (by decide) (by decide) rfl (by decide) (sg_calendar C0 hC hL hi hl hI hP hD hS nx)
    · exact lv_tableIn (off := 555) (tgt := 588) hx hb dL_law_33 (by decide) (by decide) rfl (by decide) (sg_clock C0 hC hL hi hl hI hP hD hS nx)
    · exact lv_tableIn (off := 608) (tgt := 641) hx hb dL_law_33 (by decide) (by decide) rfl (by decide) (sg_told C0 hC hL hi hl hI hP hD hS nx)
    · exact lv_tableIn (off := 641) (tgt := 674) hx hb dL_law_33 (by decide) (by decide) rfl (by decide) (sg_ring C0 hC hL hi hl hI hP hD hS nx)
    · exact lv_tableIn (off := 664) (tgt := 697) hx hb dL_law_33 (by decide) (by decide) rfl (by decide) (sg_living C0 hC hL hi hl hI hP hD hS nx)
    · exact lv_tableIn (off := 687) (tgt := 720) hx hb dL_law_33 (by decide) (by decide) rfl (by decide) (sg_wood C0 hC hL hi hl hI hP hD hS nx)
    · exact lv_tableIn (off := 720) (tgt := 753) hx hb dL_law_33 (by decide) (by decide) rfl (by decide) (sg_felled C0 hC hL hi hl hI hP hD hS nx)
    · exact lv_tableIn (off := 753) (tgt := 786) hx hb dL_law_33 (by decide) (by decide) rfl (by decide) (sg_like C0 hC hL hi hl hI hP hD hS nx)
    · exact lv_tableIn (off := 786) (tgt := 819) hx hb dL_law_33 (by decide) (by decide) rfl (by decide) (sg_died C0 hC hL hi hl hI hP hD hS nx)
    · exact lv_tableIn (off := 819) (tgt := 852) hx hb dL_law_33 (by decide) (by decide) rfl (by decide) (sg_alike C0 hC hL hi hl hI hP hD hS nx)
    · exact lv_tableIn (off := 832) (tgt := 865) hx hb dL_law_33 (by decide) (by decide) rfl (by decide) (sg_sheet C0 hC hL hi hl hI hP hD hS nx)
    · exact lv_tableIn (off := 875) (tgt := 908) hx hb dL_law_33 (by decide) (by decide) rfl (by decide) (sg_together C0 hC hL hi hl hI hP hD hS nx)
    · exact lv_tableIn (off := 908) (tgt := 941) hx hb dL_law_33 (by decide) (by decide) rfl (by decide) (sg_slips C0 hC hL hi hl hI hP hD hS nx)
    · exact lv_tableIn (off := 921) (tgt := 954) hx hb dL_law_33 (by decide) (by decide) rfl (by decide) (sg_joined C0 hC hL hi hl hI hP hD hS nx)
    · exact lv_tableIn (off := 944) (tgt := 977) hx hb dL_law_33 (by decide) (by decide) rfl (by decide) (sg_whole C0 hC hL hi hl hI hP hD hS nx)
    · exact lv_tableIn (off := 967) (tgt := 1000) hx hb dL_law_33 (by decide) (by decide) rfl (by decide) (sg_tale C0 hC hL hi hl hI hP hD hS nx)
    · exact lv_tableIn (off := 1030) (tgt := 1063) hx hb dL_law_33 (by decide) (by decide) rfl (by decide) (sg_known C0 hC hL hi hl hI hP hD hS nx)
    · exact lv_tableIn (off := 1053) (tgt := 1086) hx hb dL_law_33 (by decide) (by decide) rfl (by decide) (sg_next C0 hC hL hi hl hI hP hD hS nx)
    · exact lv_tableIn (off := 1086) (tgt := 1119) hx hb dL_law_33 (by decide) (by decide) rfl (by decide) (sg_even C0 hC hL hi hl hI hP hD hS nx)
    · exact lv_tableIn (off := 1099) (tgt := 1132) hx hb dL_law_33 (by decide) (by decide) rfl (by decide) (sg_story C0 hC hL hi hl hI hP hD hS nx)
    · exact lv_tableIn (off := 1133) (tgt := 1166) hx hb dL_law_33 (by decide) (by decide) rfl (by decide) (sg_chance C0 hC hL hi hl hI hP hD hS nx)
    · exact lv_tableIn (off := 1176) (tgt := 1209) hx hb dL_law_33 (by decide) (by decide) rfl (by decide) (sg_dug C0 hC hL hi hl hI hP hD hS nx)
    · exact lv_tableIn (off := 1209) (tgt := 1242) hx hb dL_law_33 (by decide) (by decide) rfl (by decide) (sg_believed C0 hC hL hi hl hI hP hD hS nx)
    · exact lv_tableIn (off := 1243) (tgt := 1276) hx hb dL_law_33 (by decide) (by decide) rfl (by decide) (sg_dig C0 hC hL hi hl hI hP hD hS nx)
    · exact lv_tableIn (off := 1256) (tgt := 1289) hx hb dL_law_33 (by decide) (by decide) rfl (by decide) (sg_minutes C0 hC hL hi hl hI hP hD hS nx)
    · exact lv_tableIn (off := 1299) (tgt := 1332) hx hb dL_law_33 (by decide) (by decide) rfl (by decide) (sg_trust C0 hC hL hi hl hI hP hD hS nx)
    · exact lv_tableIn (off := 1332) (tgt := 1365) hx hb dL_law_33 (by decide) (by decide) rfl (by decide) (sg_keep C0 hC hL hi hl hI hP hD hS nx)
    · exact lv_tableIn (off := 1355) (tgt := 1388) hx hb dL_law_33 (by decide) (by decide) rfl (by decide) (sg_back C0 hC hL hi hl hI hP hD hS nx)
    · exact lv_tableIn (off := 1378) (tgt := 1411) hx hb dL_law_33 (by decide) (by decide) rfl (by decide) (sg_count C0 hC hL hi hl hI hP hD hS nx)
    · exact lv_tableIn (off := 1401) (tgt := 1434) hx hb dL_law_33 (by decide) (by decide) rfl (by decide) (sg_trace C0 hC hL hi hl hI hP hD hS nx)
set_option maxRecDepth 100000 in
set_option maxHeartbeats 4000000 in
/-- THE LAW'S LOOP -/
theorem law_loop {p : Program} {l : Launch} {e : Env} {s : State} {m : MethodId} {below : List Frame} {meth : Method} {c : Code} {D : va_G} {cA : Nat → ClassId} {b L : Nat} {xs : Nat → Int32} {q : Nat → Nat} {r : Nat → Nat → Nat} {mq : Nat → Nat} (C0 : lw_At p s m meth c b L xs) (hC : CX D cA s) (hL : L ≤ 384) : ∀ (n i : Nat) (X Y : va_W) (H : Heap) (locs : List Loc) (ls : Array Slot), i ≤ L → L + 1 ≤ i + n → lv_has ls 4 [(0, .ref b), (1, .ref (q 0)), (2, .ref (mq 0)), (3, .int (nI i))] → Inv cA q r mq X Y → va_P D vwCl (X ++ Y) H → va_D (LA s) (X ++ Y) → va_S (LA s) s.heap H locs → W p l e room_1 s m #[Value.ref b] below meth c H locs 122 2965 (lw_Z below #[Value.ref b] s) (F0 m 18 ls []) := by
  obtain ⟨hx, hb, hr, hml, hown, hts, hX, hbl, hlocks, hgv⟩ := id C0
  have hbA : ¬ LA s b := Nat.not_le.mpr hbl
  intro n
  induction n with
  | zero =>
    intro i X Y H locs ls h1 h2
    exact absurd h2 (by omega)
  | succ n ih =>
    intro i X Y H locs ls hi hin hl hI hP hD hS
    refine lv_iload_n hx hb dL_law_18 rfl (lv_at hl 3 rfl) ?_
    refine lv_aload_n hx hb dL_law_19 rfl (lv_at hl 0 rfl) ?_
    refine va_slen hx hb hX hbl hbA hS dL_law_20 ?_
    refine lv_bipush (v := (6 : Int32)) hx hb dL_law_21 (by decide) ?_
    refine lv_isub hx hb dL_law_23 ?_
    have e6 : (Int32.ofNat L - 6).toInt = (L : Int) - 6 := by
      have e1 : (Int32.ofNat L).toInt = L := nI_int (by omega)
      have e2 : (6 : Int32).toInt = 6 := by decide
      rw [i_sub (by rw [e1, e2]; omega) (by rw [e1, e2]; omega), e1, e2]
    have ei : (nI i).toInt = i := nI_int (by omega)
    refine lv_icmp_gt (tgt := 1454) hx hb dL_law_24 (by decide) (fun z => ?_) (fun z => ?_)
    · refine lv_iconst (v := 1) hx hb dL_law_1454 (by decide) ?_
      refine va_forget (fun q hq => hS.2.2 q hq) ?_
      refine W.widen (k := 600000) (n := 7302250) (by omega) (by omega) ?_
      exact lw_ret hx hb hr hlocks dL_law_1455
    · have h6 : i + 6 ≤ L := by
        rw [i_lt, e6, ei] at z
        omega
      refine lv_aload_n hx hb dL_law_27 rfl (lv_at hl 0 rfl) ?_
      refine lv_iload_n hx hb dL_law_28 rfl (lv_at hl 3 rfl) ?_
      refine va_sld hx hb hX hbl hbA hS (vp_in_nI (show i < L by omega) (by omega)) dL_law_29 ?_
      refine lv_bipush (v := (63 : Int32)) hx hb dL_law_30 (by decide) ?_
      refine lv_iand hx hb dL_law_32 ?_
      obtain ⟨j, hj, ej⟩ := and63 (xs (nI i).toNatClampNeg)
      rw [ej]
      refine law_switch C0 hC hL h6 hl hI hP hD hS (fun X Y H locs hI hP hD hS => ?_) hj
      refine lv_iinc (v := nI (i + 6)) (lv' := [(3, .int (nI (i + 6))), (0, .ref b), (1, .ref (q 0)), (2, .ref (mq 0))]) hx hb dL_law_1448 hl (k := 3) rfl (nI_add i 6) (by decide) rfl (fun ls hl => ?_)
      refine lv_goto (tgt := 18) hx hb dL_law_1451 (by decide) ?_
      exact ih (i + 6) X Y H locs ls h6 (by omega) (lv_sub hl [1, 2, 3, 0] rfl) hI hP hD hS
