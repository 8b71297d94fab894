/-! ===== OrphanWave$Stories.part(II)J ===== -/
abbrev rm_X8_part : Room := { frames := 1, cells := 0, slots := 0, locals := 30 }
abbrev w_X8_part (a0 : Nat) (q_found : Nat) (q_found_weights : Nat) (q_chances : Nat) (q_behind : Nat) (q_found_books : Nat) (q_found_sheets : Nat) (q_found_known : Nat) (cA : Nat → ClassId) (s_found_dugMarshes : Int32) (s_found_kept : Int32) (s_found_weights : Nat → Int64) : va_W := [(a0, .inr (8, [.ref q_found, .ref q_chances, .ref q_behind])), (q_found, .inr (2, [.ref q_found_books, .ref q_found_sheets, .ref q_found_known, .ref q_found_weights, .int s_found_dugMarshes, .int s_found_kept])), (q_found_weights, .inl (cA 2, 5, .inr (.inl s_found_weights)))]
theorem hn_X8_part_X8 : ∀ w ∈ u_ws RX8 TX8 3, w ∈ wsX8_part := by decide +kernel
theorem hn_X8_part_X2 : ∀ w ∈ u_ws RX2 TX2 6, w ∈ wsX8_part := by decide +kernel
theorem hw_X8_part_f20 : Cond.fieldLink RX8 20 "OrphanWave$Stories" "found" "LOrphanWave$Findings;" ∈ wsX8_part := by decide +kernel
theorem hw_X8_part_iX11 : Cond.initialized RX11 ∈ wsX8_part := by decide +kernel
theorem hw_X8_part_sX11_commonPart : Cond.static yX11_commonPart ∈ wsX8_part := by decide +kernel

def f_X8_part_5 (s_found_weights : Nat → Int64) (x1 : Int32) (x2 : Int32) : Nat → (Int64) → (Int32) → Option ((Int64))
  | 0, _, _ => none
  | k + 1, x3, x5 =>
    pbr ((5 : Int32) ≤ x5)
      (pbr ((lg_cmp x3 (0 : Int64)) = 0)
        (some (x2.toInt64))
        (pgd (pin x1 5) (
        pcl (f_X11_commonPart (s_found_weights x1.toNatClampNeg) x3) (fun r_4 => (
        pbr ((lg_cmp r_4 (0 : Int64)) = 0)
          (some (x2.toInt64))
          (pbr (x2 = 0)
            (pgd (¬ r_4 = 0) (
            some (((s_found_weights x1.toNatClampNeg) / r_4))))
            (pgd (¬ r_4 = 0) (
            some ((x3 / r_4))))))))))
      (pgd (pin x5 5) (
      plt ((x3 + (s_found_weights x5.toNatClampNeg)) : Int64) (fun x3_11 => (
      plt (x5 + (1 : Int32) : Int32) (fun x5_12 => (
      (f_X8_part_5 s_found_weights x1 x2 k) x3_11 x5_12))))))

set_option maxRecDepth 100000 in
set_option maxHeartbeats 4000000 in
theorem k_X8_part_5 {p : Program} {l : Launch} {e : Env} {s : State} {m : MethodId} {args : Array Value} {below : List Frame} {meth : Method} {c : Code} {A : Nat → Prop} {D : va_G} {cA : Nat → ClassId} (C0 : MX p s m args meth c cX8_part 7 wsX8_part RX8 (some .long) D cA) (hA : ∀ q, s.heap.size ≤ q → A q) {a0 : Nat} {q_found : Nat} {q_found_weights : Nat} {q_chances : Nat} {q_behind : Nat} {q_found_books : Nat} {q_found_sheets : Nat} {q_found_known : Nat} {s_found_dugMarshes : Int32} {s_found_kept : Int32} {s_found_weights : Nat → Int64} {x1 : Int32} {x2 : Int32} {o_r : Int64} : ∀ (k : Nat) (x3 : Int64) (x5 : Int32), f_X8_part_5 s_found_weights x1 x2 k x3 x5 = some o_r → ∀ (H : Heap) (locs : List Loc), va_P D vwCl (w_X8_part a0 q_found q_found_weights q_chances q_behind q_found_books q_found_sheets q_found_known cA s_found_dugMarshes s_found_kept s_found_weights) H → va_D A (w_X8_part a0 q_found q_found_weights q_chances q_behind q_found_books q_found_sheets q_found_known cA s_found_dugMarshes s_found_kept s_found_weights) → va_S A s.heap H locs → ∀ ls : Array Slot, lv_has ls 7 [(0, .ref a0), (1, .int x1), (2, .int x2), (3, .long x3), (5, .int x5)] → W p l e rm_X8_part s m args below meth c H locs 0 0 (MQ below (CQ D (some (.long o_r)) (w_X8_part a0 q_found q_found_weights q_chances q_behind q_found_books q_found_sheets q_found_known cA s_found_dugMarshes s_found_kept s_found_weights) A) args s 0 0 A) (F0 m 5 ls []) := by
  obtain ⟨hx, hb, hml, hown, hts, hr, hlocks, hX⟩ := C0
  have hK := hX.1
  have hN := hX.2
  intro k
  induction k with
  | zero =>
    intro x3 x5 hf
    cases hf
  | succ k ih =>
    intro x3 x5 hf H locs hP hD hS ls hl
    rw [f_X8_part_5] at hf
    refine lv_iload hx hb dX8_part_5 (lv_at hl 4 rfl) ?_
    refine lv_iconst (v := (5 : Int32)) hx hb dX8_part_7 (by decide) ?_
    refine lv_icmp_ge (tgt := 30) hx hb dX8_part_8 (by decide) (fun c_1 => ?_) (fun c_1 => ?_)
    · have hf := pbr_t c_1 hf
      refine lv_lload_n hx hb dX8_part_30 rfl (lv_at hl 3 rfl) ?_
      refine lv_lconst (v := (0 : Int64)) hx hb dX8_part_31 (by decide) ?_
      refine W.lcmp hx hb dX8_part_32 ?_
      refine lv_if_ne (tgt := 39) hx hb dX8_part_33 (by decide) (fun c_2 => ?_) (fun c_2 => ?_)
      · have hf := pbr_f c_2 hf
        refine lv_aload_n hx hb dX8_part_39 rfl (lv_at hl 0 rfl) ?_
        refine va_get (D := D) (ci := 8) (v := .ref q_found) (C := RX8) (T := TX8) (N := 3) hx hb hts hn_X8_part_X8 hown hK hP 0 rfl rfl 0 (by decide) (hts _ hw_X8_part_f20) (fun _ h9 => h9) rfl dX8_part_40 ?_
        refine va_getN (D := D) (ci := 2) (v := .ref q_found_weights) (C := RX2) (T := TX2) (N := 6) hx hb hts hn_X8_part_X2 hown hK hP 1 rfl rfl 3 (by decide) (va_Nw.use rfl (hN _ nw_X8_34)) (fun _ h9 => h9) rfl dX8_part_43 ?_
        refine lv_iload_n hx hb dX8_part_46 rfl (lv_at hl 1 rfl) ?_
        obtain ⟨g_3, hf⟩ := pgd_e hf
        refine va_lald hx hb hK hP 2 2 rfl rfl g_3 dX8_part_47 ?_
        refine lv_lload_n hx hb dX8_part_48 rfl (lv_at hl 3 rfl) ?_
        obtain ⟨r_4, hc_5, hf⟩ := pcl_e hf
        refine m_callSN2 (As := [.long (s_found_weights x1.toNatClampNeg), .long x3]) (rest := []) ⟨hx, hb, hml, hown, hts⟩ hX (ct_X11_commonPart l D cA (s_found_weights x1.toNatClampNeg) x3 r_4 hc_5) ⟨va_cnB 2 hts ggX8_part_X11_commonPart rfl rfl rfl (hN _ nw_X8_28) (hts _ hw_X8_part_iX11) (by decide +kernel) ⟨Nat.le_of_ble_eq_true rfl, Nat.le_of_ble_eq_true rfl⟩, hts _ hw_X8_part_sX11_commonPart, trivial⟩ hP hD hS hA [] [0, 1, 2] 3 (by decide) rfl rfl (WS' := (w_X8_part a0 q_found q_found_weights q_chances q_behind q_found_books q_found_sheets q_found_known cA s_found_dugMarshes s_found_kept s_found_weights)) (WR := [(a0, .inr (8, [.ref q_found, .ref q_chances, .ref q_behind])), (q_found, .inr (2, [.ref q_found_books, .ref q_found_sheets, .ref q_found_known, .ref q_found_weights, .int s_found_dugMarshes, .int s_found_kept])), (q_found_weights, .inl (cA 2, 5, .inr (.inl s_found_weights)))]) rfl rfl rfl rfl (by decide) (by decide) rfl hl.1 rfl (st' := [.long r_4]) rfl (Nat.le_of_ble_eq_true rfl) ⟨Nat.zero_le _, Nat.zero_le _⟩ dX8_part_49 (fun H locs hP hD hS => ?_)
        refine lv_lstore (lv' := [(5, .long r_4), (0, .ref a0), (1, .int x1), (2, .int x2), (3, .long x3)]) hx hb dX8_part_52 hl (by decide) rfl (fun ls hl => ?_)
        refine lv_lload hx hb dX8_part_54 (lv_at hl 0 rfl) ?_
        refine lv_lconst (v := (0 : Int64)) hx hb dX8_part_56 (by decide) ?_
        refine W.lcmp hx hb dX8_part_57 ?_
        refine lv_if_ne (tgt := 64) hx hb dX8_part_58 (by decide) (fun c_6 => ?_) (fun c_6 => ?_)
        · have hf := pbr_f c_6 hf
          refine lv_iload_n hx hb dX8_part_64 rfl (lv_at hl 3 rfl) ?_
          refine lv_if_ne (tgt := 80) hx hb dX8_part_65 (by decide) (fun c_7 => ?_) (fun c_7 => ?_)
          · have hf := pbr_f c_7 hf
            refine lv_lload_n hx hb dX8_part_80 rfl (lv_at hl 4 rfl) ?_
            refine lv_lload hx hb dX8_part_81 (lv_at hl 0 rfl) ?_
            obtain ⟨g_8, hf⟩ := pgd_e hf
            refine lv_ldiv hx hb dX8_part_83 g_8 ?_
            obtain rfl := pe1 hf
            exact m_lret hx hb hr hlocks hP hS dX8_part_84
          have hf := pbr_t c_7 hf
          refine lv_aload_n hx hb dX8_part_68 rfl (lv_at hl 1 rfl) ?_
          refine va_get (D := D) (ci := 8) (v := .ref q_found) (C := RX8) (T := TX8) (N := 3) hx hb hts hn_X8_part_X8 hown hK hP 0 rfl rfl 0 (by decide) (hts _ hw_X8_part_f20) (fun _ h9 => h9) rfl dX8_part_69 ?_
          refine va_getN (D := D) (ci := 2) (v := .ref q_found_weights) (C := RX2) (T := TX2) (N := 6) hx hb hts hn_X8_part_X2 hown hK hP 1 rfl rfl 3 (by decide) (va_Nw.use rfl (hN _ nw_X8_34)) (fun _ h9 => h9) rfl dX8_part_72 ?_
          refine lv_iload_n hx hb dX8_part_75 rfl (lv_at hl 2 rfl) ?_
          refine va_lald hx hb hK hP 2 2 rfl rfl g_3 dX8_part_76 ?_
          refine lv_goto (tgt := 81) hx hb dX8_part_77 (by decide) ?_
          refine lv_lload hx hb dX8_part_81 (lv_at hl 0 rfl) ?_
          obtain ⟨g_9, hf⟩ := pgd_e hf
          refine lv_ldiv hx hb dX8_part_83 g_9 ?_
          obtain rfl := pe1 hf
          exact m_lret hx hb hr hlocks hP hS dX8_part_84
        have hf := pbr_t c_6 hf
        refine lv_iload_n hx hb dX8_part_61 rfl (lv_at hl 3 rfl) ?_
        refine lv_i2l hx hb dX8_part_62 rfl ?_
        obtain rfl := pe1 hf
        exact m_lret hx hb hr hlocks hP hS dX8_part_63
      have hf := pbr_t c_2 hf
      refine lv_iload_n hx hb dX8_part_36 rfl (lv_at hl 2 rfl) ?_
      refine lv_i2l hx hb dX8_part_37 rfl ?_
      obtain rfl := pe1 hf
      exact m_lret hx hb hr hlocks hP hS dX8_part_38
    have hf := pbr_f c_1 hf
    refine lv_lload_n hx hb dX8_part_11 rfl (lv_at hl 3 rfl) ?_
    refine lv_aload_n hx hb dX8_part_12 rfl (lv_at hl 0 rfl) ?_
    refine va_get (D := D) (ci := 8) (v := .ref q_found) (C := RX8) (T := TX8) (N := 3) hx hb hts hn_X8_part_X8 hown hK hP 0 rfl rfl 0 (by decide) (hts _ hw_X8_part_f20) (fun _ h9 => h9) rfl dX8_part_13 ?_
    refine va_getN (D := D) (ci := 2) (v := .ref q_found_weights) (C := RX2) (T := TX2) (N := 6) hx hb hts hn_X8_part_X2 hown hK hP 1 rfl rfl 3 (by decide) (va_Nw.use rfl (hN _ nw_X8_34)) (fun _ h9 => h9) rfl dX8_part_16 ?_
    refine lv_iload hx hb dX8_part_19 (lv_at hl 4 rfl) ?_
    obtain ⟨g_10, hf⟩ := pgd_e hf
    refine va_lald hx hb hK hP 2 2 rfl rfl g_10 dX8_part_21 ?_
    refine lv_ladd hx hb dX8_part_22 ?_
    refine lv_topl (fun x3_11 ex3_11 => ?_)
    have hf := plt_e ex3_11 hf
    refine lv_lstore_n (lv' := [(3, .long x3_11), (0, .ref a0), (1, .int x1), (2, .int x2), (5, .int x5)]) hx hb dX8_part_23 rfl hl (by decide) rfl (fun ls hl => ?_)
    obtain ⟨x5_12, ex5_12⟩ : ∃ z : Int32, z = x5 + (1 : Int32) := ⟨_, rfl⟩
    have hf := plt_e ex5_12 hf
    refine lv_iinc (v := x5_12) (lv' := [(5, .int x5_12), (3, .long x3_11), (0, .ref a0), (1, .int x1), (2, .int x2)]) hx hb dX8_part_24 hl (k := 4) rfl (by rw [ex5_12]; rfl) (by decide) rfl (fun ls hl => ?_)
    refine lv_goto (tgt := 5) hx hb dX8_part_27 (by decide) ?_
    exact ih x3_11 x5_12 hf _ _ hP hD hS ls (lv_sub hl [2, 3, 4, 1, 0] rfl)

def f_X8_part (x1 : Int32) (x2 : Int32) (s_found_weights : Nat → Int64) : Option ((Int64)) :=
  f_X8_part_5 s_found_weights x1 x2 FU (0 : Int64) (0 : Int32)

set_option maxRecDepth 100000 in
set_option maxHeartbeats 4000000 in
theorem ct_X8_part (l : Launch) (D : va_G) (cA : Nat → ClassId) (x1 : Int32) (x2 : Int32) (a0 : Nat) (q_found : Nat) (q_found_weights : Nat) (q_chances : Nat) (q_behind : Nat) (q_found_books : Nat) (q_found_sheets : Nat) (q_found_known : Nat) (s_found_dugMarshes : Int32) (s_found_kept : Int32) (s_found_weights : Nat → Int64) (o_r : Int64) (hf : f_X8_part x1 x2 s_found_weights = some o_r) : CT l yX8_part wsX8_part rm_X8_part D cA [.ref a0, .int x1, .int x2] (w_X8_part a0 q_found q_found_weights q_chances q_behind q_found_books q_found_sheets q_found_known cA s_found_dugMarshes s_found_kept s_found_weights) (w_X8_part a0 q_found q_found_weights q_chances q_behind q_found_books q_found_sheets q_found_known cA s_found_dugMarshes s_found_kept s_found_weights) (some (.long o_r)) := by
  refine CT.ofW (cc := cX8_part) (maxL := 7) (ret := (some .long)) (by decide +kernel) rfl (Nat.le_of_ble_eq_true rfl) ?_
  intro p e s m below meth c A C0 hA hP hD ls hl
  have C0 : MX p s m [.ref a0, .int x1, .int x2].toArray meth c cX8_part 7 wsX8_part RX8 (some .long) D cA := C0
  have hl : lv_has ls 7 [(0, .ref a0), (1, .int x1), (2, .int x2)] := hl
  obtain ⟨hx, hb, hml, hown, hts, hr, hlocks, hX⟩ := id C0
  have hK := hX.1
  have hN := hX.2
  have hS : va_S A s.heap s.heap [] := va_S.rf
  unfold f_X8_part at hf
  refine lv_lconst (v := (0 : Int64)) hx hb dX8_part_0 (by decide) ?_
  refine lv_lstore_n (lv' := [(3, .long (0 : Int64)), (0, .ref a0), (1, .int x1), (2, .int x2)]) hx hb dX8_part_1 rfl hl (by decide) rfl (fun ls hl => ?_)
  refine lv_iconst (v := (0 : Int32)) hx hb dX8_part_2 (by decide) ?_
  refine lv_istore (lv' := [(5, .int (0 : Int32)), (3, .long (0 : Int64)), (0, .ref a0), (1, .int x1), (2, .int x2)]) hx hb dX8_part_3 hl (by decide) rfl (fun ls hl => ?_)
  exact k_X8_part_5 C0 hA FU (0 : Int64) (0 : Int32) hf _ _ hP hD hS ls (lv_sub hl [2, 3, 4, 1, 0] rfl)
