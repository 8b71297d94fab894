/-! ===== OrphanWave$Calendar.daysOf(II)I ===== -/
abbrev rm_X1_daysOf : Room := { frames := 0, cells := 0, slots := 0, locals := 0 }
abbrev wx_X1_daysOf (a0 : Nat) (q_lengths : Nat) (q_months : Nat) (r_lengths : Nat → Nat) (cA : Nat → ClassId) (s_years : Int32) (s_lengths : Nat → Nat → Int32) : va_W := [(a0, .inr (1, [.ref q_lengths, .ref q_months, .int s_years])), (q_lengths, .inl (cA 5, 8, .inr (.inr (.inr (.inr (gro 8 r_lengths))))))]
abbrev w_X1_daysOf (a0 : Nat) (q_lengths : Nat) (q_months : Nat) (r_lengths : Nat → Nat) (cA : Nat → ClassId) (s_years : Int32) (s_lengths : Nat → Nat → Int32) : va_W := [(a0, .inr (1, [.ref q_lengths, .ref q_months, .int s_years])), (q_lengths, .inl (cA 5, 8, .inr (.inr (.inr (.inr (gro 8 r_lengths))))))] ++ grw 8 r_lengths (cA 1) 13 s_lengths
theorem hn_X1_daysOf_X1 : ∀ w ∈ u_ws RX1 TX1 3, w ∈ wsX1_daysOf := by decide +kernel
theorem hw_X1_daysOf_f11 : Cond.fieldLink RX1 11 "OrphanWave$Calendar" "lengths" "[[I" ∈ wsX1_daysOf := by decide +kernel

def f_X1_daysOf_5 (s_lengths : Nat → Nat → Int32) (x1 : Int32) (x2 : Int32) : Nat → (Int32) → (Int32) → Option ((Int32))
  | 0, _, _ => none
  | k + 1, x3, x4 =>
    pbr (x2 ≤ x4)
      (some (x3))
      (pgd (pin x1 8) (
      pgd (pin x4 13) (
      plt ((x3 + (s_lengths x1.toNatClampNeg x4.toNatClampNeg)) : Int32) (fun x3_4 => (
      plt (x4 + (1 : Int32) : Int32) (fun x4_5 => (
      (f_X1_daysOf_5 s_lengths x1 x2 k) x3_4 x4_5)))))))

set_option maxRecDepth 100000 in
set_option maxHeartbeats 4000000 in
theorem k_X1_daysOf_5 {p : Program} {l : Launch} {e : Env} {s : State} {m : MethodId} {args : Array Value} {below : List Frame} {meth : Method} {c : Code} {A : Nat → Prop} {D : va_G} {cA : Nat → ClassId} (C0 : MX p s m args meth c cX1_daysOf 5 wsX1_daysOf RX1 (some .int) D cA) (hA : ∀ q, s.heap.size ≤ q → A q) {a0 : Nat} {q_lengths : Nat} {q_months : Nat} {r_lengths : Nat → Nat} {s_years : Int32} {s_lengths : Nat → Nat → Int32} {x1 : Int32} {x2 : Int32} {o_r : Int32} : ∀ (k : Nat) (x3 : Int32) (x4 : Int32), f_X1_daysOf_5 s_lengths x1 x2 k x3 x4 = some o_r → ∀ (H : Heap) (locs : List Loc), va_P D vwCl (w_X1_daysOf a0 q_lengths q_months r_lengths cA s_years s_lengths) H → va_D A (w_X1_daysOf a0 q_lengths q_months r_lengths cA s_years s_lengths) → va_S A s.heap H locs → ∀ ls : Array Slot, lv_has ls 5 [(0, .ref a0), (1, .int x1), (2, .int x2), (3, .int x3), (4, .int x4)] → W p l e rm_X1_daysOf s m args below meth c H locs 0 0 (MQ below (CQ D (some (.int o_r)) (w_X1_daysOf a0 q_lengths q_months r_lengths cA s_years s_lengths) A) args s 0 0 A) (F0 m 5 ls []) := by
  obtain ⟨hx, hb, hml, hown, hts, hr, hlocks, hX⟩ := C0
  have hK := hX.1
  have hN := hX.2
  intro k
  induction k with
  | zero =>
    intro x3 x4 hf
    cases hf
  | succ k ih =>
    intro x3 x4 hf H locs hP hD hS ls hl
    rw [f_X1_daysOf_5] at hf
    refine lv_iload hx hb dX1_daysOf_5 (lv_at hl 4 rfl) ?_
    refine lv_iload_n hx hb dX1_daysOf_7 rfl (lv_at hl 2 rfl) ?_
    refine lv_icmp_ge (tgt := 29) hx hb dX1_daysOf_8 (by decide) (fun c_1 => ?_) (fun c_1 => ?_)
    · have hf := pbr_t c_1 hf
      refine lv_iload_n hx hb dX1_daysOf_29 rfl (lv_at hl 3 rfl) ?_
      obtain rfl := pe1 hf
      exact m_iret hx hb hr hlocks hP hS dX1_daysOf_30
    have hf := pbr_f c_1 hf
    refine lv_iload_n hx hb dX1_daysOf_11 rfl (lv_at hl 3 rfl) ?_
    refine lv_aload_n hx hb dX1_daysOf_12 rfl (lv_at hl 0 rfl) ?_
    refine va_get (D := D) (ci := 1) (v := .ref q_lengths) (C := RX1) (T := TX1) (N := 3) hx hb hts hn_X1_daysOf_X1 hown hK hP 0 rfl rfl 0 (by decide) (hts _ hw_X1_daysOf_f11) (fun _ h9 => h9) rfl dX1_daysOf_13 ?_
    refine lv_iload_n hx hb dX1_daysOf_16 rfl (lv_at hl 1 rfl) ?_
    obtain ⟨g_2, hf⟩ := pgd_e hf
    refine m_aald hx hb hK hP 1 rfl g_2 dX1_daysOf_17 ?_
    refine lv_iload hx hb dX1_daysOf_18 (lv_at hl 4 rfl) ?_
    obtain ⟨g_3, hf⟩ := pgd_e hf
    refine m_rald (i := x1) hx hb hK hP rfl g_2 g_3 dX1_daysOf_20 ?_
    refine lv_iadd hx hb dX1_daysOf_21 ?_
    refine lv_topi (fun x3_4 ex3_4 => ?_)
    have hf := plt_e ex3_4 hf
    refine lv_istore_n (lv' := [(3, .int x3_4), (0, .ref a0), (1, .int x1), (2, .int x2), (4, .int x4)]) hx hb dX1_daysOf_22 rfl hl (by decide) rfl (fun ls hl => ?_)
    obtain ⟨x4_5, ex4_5⟩ : ∃ z : Int32, z = x4 + (1 : Int32) := ⟨_, rfl⟩
    have hf := plt_e ex4_5 hf
    refine lv_iinc (v := x4_5) (lv' := [(4, .int x4_5), (3, .int x3_4), (0, .ref a0), (1, .int x1), (2, .int x2)]) hx hb dX1_daysOf_23 hl (k := 4) rfl (by rw [ex4_5]; rfl) (by decide) rfl (fun ls hl => ?_)
    refine lv_goto (tgt := 5) hx hb dX1_daysOf_26 (by decide) ?_
    exact ih x3_4 x4_5 hf _ _ hP hD hS ls (lv_sub hl [2, 3, 4, 1, 0] rfl)

def f_X1_daysOf (x1 : Int32) (x2 : Int32) (s_lengths : Nat → Nat → Int32) : Option ((Int32)) :=
  f_X1_daysOf_5 s_lengths x1 x2 FU (0 : Int32) (0 : Int32)

set_option maxRecDepth 100000 in
set_option maxHeartbeats 4000000 in
theorem ct_X1_daysOf (l : Launch) (D : va_G) (cA : Nat → ClassId) (x1 : Int32) (x2 : Int32) (a0 : Nat) (q_lengths : Nat) (q_months : Nat) (r_lengths : Nat → Nat) (s_years : Int32) (s_lengths : Nat → Nat → Int32) (o_r : Int32) (hf : f_X1_daysOf x1 x2 s_lengths = some o_r) : CT l yX1_daysOf wsX1_daysOf rm_X1_daysOf D cA [.ref a0, .int x1, .int x2] (w_X1_daysOf a0 q_lengths q_months r_lengths cA s_years s_lengths) (w_X1_daysOf a0 q_lengths q_months r_lengths cA s_years s_lengths) (some (.int o_r)) := by
  refine CT.ofW (cc := cX1_daysOf) (maxL := 5) (ret := (some .int)) (by decide +kernel) rfl (Nat.le_of_ble_eq_true rfl) ?_
  intro p e s m below meth c A C0 hA hP hD ls hl
  have C0 : MX p s m [.ref a0, .int x1, .int x2].toArray meth c cX1_daysOf 5 wsX1_daysOf RX1 (some .int) D cA := C0
  have hl : lv_has ls 5 [(0, .ref a0), (1, .int x1), (2, .int x2)] := hl
  obtain ⟨hx, hb, hml, hown, hts, hr, hlocks, hX⟩ := id C0
  have hK := hX.1
  have hN := hX.2
  have hS : va_S A s.heap s.heap [] := va_S.rf
  unfold f_X1_daysOf at hf
  refine lv_iconst (v := (0 : Int32)) hx hb dX1_daysOf_0 (by decide) ?_
  refine lv_istore_n (lv' := [(3, .int (0 : Int32)), (0, .ref a0), (1, .int x1), (2, .int x2)]) hx hb dX1_daysOf_1 rfl hl (by decide) rfl (fun ls hl => ?_)
  refine lv_iconst (v := (0 : Int32)) hx hb dX1_daysOf_2 (by decide) ?_
  refine lv_istore (lv' := [(4, .int (0 : Int32)), (3, .int (0 : Int32)), (0, .ref a0), (1, .int x1), (2, .int x2)]) hx hb dX1_daysOf_3 hl (by decide) rfl (fun ls hl => ?_)
  exact k_X1_daysOf_5 C0 hA FU (0 : Int32) (0 : Int32) hf _ _ hP hD hS ls (lv_sub hl [2, 3, 4, 1, 0] rfl)

/-! ===== OrphanWave$Calendar.daysAhead(III)I ===== -/
abbrev rm_X1_daysAhead : Room := { frames := 1, cells := 0, slots := 0, locals := 24 }
abbrev wx_X1_daysAhead (a0 : Nat) (q_months : Nat) (q_lengths : Nat) (r_lengths : Nat → Nat) (cA : Nat → ClassId) (s_years : Int32) (s_months : Nat → Int32) (s_lengths : Nat → Nat → Int32) : va_W := [(a0, .inr (1, [.ref q_lengths, .ref q_months, .int s_years])), (q_months, .inl (cA 1, 8, .inl s_months)), (q_lengths, .inl (cA 5, 8, .inr (.inr (.inr (.inr (gro 8 r_lengths))))))]
abbrev w_X1_daysAhead (a0 : Nat) (q_months : Nat) (q_lengths : Nat) (r_lengths : Nat → Nat) (cA : Nat → ClassId) (s_years : Int32) (s_months : Nat → Int32) (s_lengths : Nat → Nat → Int32) : va_W := [(a0, .inr (1, [.ref q_lengths, .ref q_months, .int s_years])), (q_months, .inl (cA 1, 8, .inl s_months)), (q_lengths, .inl (cA 5, 8, .inr (.inr (.inr (.inr (gro 8 r_lengths))))))] ++ grw 8 r_lengths (cA 1) 13 s_lengths
theorem hn_X1_daysAhead_X1 : ∀ w ∈ u_ws RX1 TX1 3, w ∈ wsX1_daysAhead := by decide +kernel
theorem hw_X1_daysAhead_f16 : Cond.fieldLink RX1 16 "OrphanWave$Calendar" "months" "[I" ∈ wsX1_daysAhead := by decide +kernel

def f_X1_daysAhead_6 (s_months : Nat → Int32) (s_lengths : Nat → Nat → Int32) (x1 : Int32) (x2 : Int32) (x3 : Int32) : Nat → (Int32) → (Int32) → Option ((Int32))
  | 0, _, _ => none
  | k + 1, x4, x5 =>
    pbr (x1 ≤ x5)
      (pcl (f_X1_daysOf x1 x2 s_lengths) (fun r_2 => (
      some ((x4 + r_2)))))
      (pgd (pin x5 8) (
      pcl (f_X1_daysOf x5 (s_months x5.toNatClampNeg) s_lengths) (fun r_5 => (
      plt ((x4 + r_5) : Int32) (fun x4_7 => (
      plt (x5 + (1 : Int32) : Int32) (fun x5_8 => (
      (f_X1_daysAhead_6 s_months s_lengths x1 x2 x3 k) x4_7 x5_8))))))))

set_option maxRecDepth 100000 in
set_option maxHeartbeats 4000000 in
theorem k_X1_daysAhead_6 {p : Program} {l : Launch} {e : Env} {s : State} {m : MethodId} {args : Array Value} {below : List Frame} {meth : Method} {c : Code} {A : Nat → Prop} {D : va_G} {cA : Nat → ClassId} (C0 : MX p s m args meth c cX1_daysAhead 6 wsX1_daysAhead RX1 (some .int) D cA) (hA : ∀ q, s.heap.size ≤ q → A q) {a0 : Nat} {q_months : Nat} {q_lengths : Nat} {r_lengths : Nat → Nat} {s_years : Int32} {s_months : Nat → Int32} {s_lengths : Nat → Nat → Int32} {x1 : Int32} {x2 : Int32} {x3 : Int32} {o_r : Int32} : ∀ (k : Nat) (x4 : Int32) (x5 : Int32), f_X1_daysAhead_6 s_months s_lengths x1 x2 x3 k x4 x5 = some o_r → ∀ (H : Heap) (locs : List Loc), va_P D vwCl (w_X1_daysAhead a0 q_months q_lengths r_lengths cA s_years s_months s_lengths) H → va_D A (w_X1_daysAhead a0 q_months q_lengths r_lengths cA s_years s_months s_lengths) → va_S A s.heap H locs → ∀ ls : Array Slot, lv_has ls 6 [(0, .ref a0), (1, .int x1), (2, .int x2), (4, .int x4), (5, .int x5)] → W p l e rm_X1_daysAhead s m args below meth c H locs 0 0 (MQ below (CQ D (some (.int o_r)) (w_X1_daysAhead a0 q_months q_lengths r_lengths cA s_years s_months s_lengths) A) args s 0 0 A) (F0 m 6 ls []) := by
  obtain ⟨hx, hb, hml, hown, hts, hr, hlocks, hX⟩ := C0
  have hK := hX.1
  have hN := hX.2
  intro k
  induction k with
  | zero =>
    intro x4 x5 hf
    cases hf
  | succ k ih =>
    intro x4 x5 hf H locs hP hD hS ls hl
    rw [f_X1_daysAhead_6] at hf
    refine lv_iload hx hb dX1_daysAhead_6 (lv_at hl 4 rfl) ?_
    refine lv_iload_n hx hb dX1_daysAhead_8 rfl (lv_at hl 1 rfl) ?_
    refine lv_icmp_ge (tgt := 36) hx hb dX1_daysAhead_9 (by decide) (fun c_1 => ?_) (fun c_1 => ?_)
    · have hf := pbr_t c_1 hf
      refine lv_iload hx hb dX1_daysAhead_36 (lv_at hl 3 rfl) ?_
      refine lv_aload_n hx hb dX1_daysAhead_38 rfl (lv_at hl 0 rfl) ?_
      refine lv_iload_n hx hb dX1_daysAhead_39 rfl (lv_at hl 1 rfl) ?_
      refine lv_iload_n hx hb dX1_daysAhead_40 rfl (lv_at hl 2 rfl) ?_
      obtain ⟨r_2, hc_3, hf⟩ := pcl_e hf
      refine m_callV2 (As := [.int x1, .int x2]) (rest := [.int x4]) ⟨hx, hb, hml, hown, hts⟩ hX (ct_X1_daysOf l D cA x1 x2 a0 q_lengths q_months r_lengths s_years s_lengths r_2 hc_3) (cwV 2 hts gX1_daysAhead_X1_daysOf rfl rfl rfl (by decide +kernel) ⟨Nat.le_of_ble_eq_true rfl, Nat.le_of_ble_eq_true rfl⟩) hP hD hS hA [0, 2, 3, 4, 5, 6, 7, 8, 9, 10] [1] 11 (by decide) rfl rfl (WS' := (w_X1_daysAhead a0 q_months q_lengths r_lengths cA s_years s_months s_lengths)) (WR := [(q_months, .inl (cA 1, 8, .inl s_months))]) rfl rfl rfl rfl (by decide) (by decide) 0 1 rfl rfl rfl hl.1 rfl (st' := [.int r_2, .int x4]) rfl (Nat.le_of_ble_eq_true rfl) ⟨Nat.zero_le _, Nat.zero_le _⟩ dX1_daysAhead_41 (fun H locs hP hD hS => ?_)
      refine lv_iadd hx hb dX1_daysAhead_44 ?_
      obtain rfl := pe1 hf
      exact m_iret hx hb hr hlocks hP hS dX1_daysAhead_45
    have hf := pbr_f c_1 hf
    refine lv_iload hx hb dX1_daysAhead_12 (lv_at hl 3 rfl) ?_
    refine lv_aload_n hx hb dX1_daysAhead_14 rfl (lv_at hl 0 rfl) ?_
    refine lv_iload hx hb dX1_daysAhead_15 (lv_at hl 4 rfl) ?_
    refine lv_aload_n hx hb dX1_daysAhead_17 rfl (lv_at hl 0 rfl) ?_
    refine va_get (D := D) (ci := 1) (v := .ref q_months) (C := RX1) (T := TX1) (N := 3) hx hb hts hn_X1_daysAhead_X1 hown hK hP 0 rfl rfl 1 (by decide) (hts _ hw_X1_daysAhead_f16) (fun _ h9 => h9) rfl dX1_daysAhead_18 ?_
    refine lv_iload hx hb dX1_daysAhead_21 (lv_at hl 4 rfl) ?_
    obtain ⟨g_4, hf⟩ := pgd_e hf
    refine va_iald hx hb hK hP 1 1 rfl rfl g_4 dX1_daysAhead_23 ?_
    obtain ⟨r_5, hc_6, hf⟩ := pcl_e hf
    refine m_callV2 (As := [.int x5, .int (s_months x5.toNatClampNeg)]) (rest := [.int x4]) ⟨hx, hb, hml, hown, hts⟩ hX (ct_X1_daysOf l D cA x5 (s_months x5.toNatClampNeg) a0 q_lengths q_months r_lengths s_years s_lengths r_5 hc_6) (cwV 2 hts gX1_daysAhead_X1_daysOf rfl rfl rfl (by decide +kernel) ⟨Nat.le_of_ble_eq_true rfl, Nat.le_of_ble_eq_true rfl⟩) hP hD hS hA [0, 2, 3, 4, 5, 6, 7, 8, 9, 10] [1] 11 (by decide) rfl rfl (WS' := (w_X1_daysAhead a0 q_months q_lengths r_lengths cA s_years s_months s_lengths)) (WR := [(q_months, .inl (cA 1, 8, .inl s_months))]) rfl rfl rfl rfl (by decide) (by decide) 0 1 rfl rfl rfl hl.1 rfl (st' := [.int r_5, .int x4]) rfl (Nat.le_of_ble_eq_true rfl) ⟨Nat.zero_le _, Nat.zero_le _⟩ dX1_daysAhead_24 (fun H locs hP hD hS => ?_)
    refine lv_iadd hx hb dX1_daysAhead_27 ?_
    refine lv_topi (fun x4_7 ex4_7 => ?_)
    have hf := plt_e ex4_7 hf
    refine lv_istore (lv' := [(4, .int x4_7), (0, .ref a0), (1, .int x1), (2, .int x2), (5, .int x5)]) hx hb dX1_daysAhead_28 hl (by decide) rfl (fun ls hl => ?_)
    obtain ⟨x5_8, ex5_8⟩ : ∃ z : Int32, z = x5 + (1 : Int32) := ⟨_, rfl⟩
    have hf := plt_e ex5_8 hf
    refine lv_iinc (v := x5_8) (lv' := [(5, .int x5_8), (4, .int x4_7), (0, .ref a0), (1, .int x1), (2, .int x2)]) hx hb dX1_daysAhead_30 hl (k := 4) rfl (by rw [ex5_8]; rfl) (by decide) rfl (fun ls hl => ?_)
    refine lv_goto (tgt := 6) hx hb dX1_daysAhead_33 (by decide) ?_
    exact ih x4_7 x5_8 hf _ _ hP hD hS ls (lv_sub hl [2, 3, 4, 1, 0] rfl)

def f_X1_daysAhead (x1 : Int32) (x2 : Int32) (x3 : Int32) (s_months : Nat → Int32) (s_lengths : Nat → Nat → Int32) : Option ((Int32)) :=
  f_X1_daysAhead_6 s_months s_lengths x1 x2 x3 FU x3 (0 : Int32)

set_option maxRecDepth 100000 in
set_option maxHeartbeats 4000000 in
theorem ct_X1_daysAhead (l : Launch) (D : va_G) (cA : Nat → ClassId) (x1 : Int32) (x2 : Int32) (x3 : Int32) (a0 : Nat) (q_months : Nat) (q_lengths : Nat) (r_lengths : Nat → Nat) (s_years : Int32) (s_months : Nat → Int32) (s_lengths : Nat → Nat → Int32) (o_r : Int32) (hf : f_X1_daysAhead x1 x2 x3 s_months s_lengths = some o_r) : CT l yX1_daysAhead wsX1_daysAhead rm_X1_daysAhead D cA [.ref a0, .int x1, .int x2, .int x3] (w_X1_daysAhead a0 q_months q_lengths r_lengths cA s_years s_months s_lengths) (w_X1_daysAhead a0 q_months q_lengths r_lengths cA s_years s_months s_lengths) (some (.int o_r)) := by
  refine CT.ofW (cc := cX1_daysAhead) (maxL := 6) (ret := (some .int)) (by decide +kernel) rfl (Nat.le_of_ble_eq_true rfl) ?_
  intro p e s m below meth c A C0 hA hP hD ls hl
  have C0 : MX p s m [.ref a0, .int x1, .int x2, .int x3].toArray meth c cX1_daysAhead 6 wsX1_daysAhead RX1 (some .int) D cA := C0
  have hl : lv_has ls 6 [(0, .ref a0), (1, .int x1), (2, .int x2), (3, .int x3)] := hl
  obtain ⟨hx, hb, hml, hown, hts, hr, hlocks, hX⟩ := id C0
  have hK := hX.1
  have hN := hX.2
  have hS : va_S A s.heap s.heap [] := va_S.rf
  unfold f_X1_daysAhead at hf
  refine lv_iload_n hx hb dX1_daysAhead_0 rfl (lv_at hl 3 rfl) ?_
  refine lv_istore (lv' := [(4, .int x3), (0, .ref a0), (1, .int x1), (2, .int x2), (3, .int x3)]) hx hb dX1_daysAhead_1 hl (by decide) rfl (fun ls hl => ?_)
  refine lv_iconst (v := (0 : Int32)) hx hb dX1_daysAhead_3 (by decide) ?_
  refine lv_istore (lv' := [(5, .int (0 : Int32)), (4, .int x3), (0, .ref a0), (1, .int x1), (2, .int x2), (3, .int x3)]) hx hb dX1_daysAhead_4 hl (by decide) rfl (fun ls hl => ?_)
  exact k_X1_daysAhead_6 C0 hA FU x3 (0 : Int32) hf _ _ hP hD hS ls (lv_sub hl [2, 3, 4, 1, 0] rfl)

/-! ===== OrphanWave$Calendar.allDays()I ===== -/
abbrev rm_X1_allDays : Room := { frames := 1, cells := 0, slots := 0, locals := 24 }
abbrev wx_X1_allDays (a0 : Nat) (q_months : Nat) (q_lengths : Nat) (r_lengths : Nat → Nat) (cA : Nat → ClassId) (s_years : Int32) (s_months : Nat → Int32) (s_lengths : Nat → Nat → Int32) : va_W := [(a0, .inr (1, [.ref q_lengths, .ref q_months, .int s_years])), (q_months, .inl (cA 1, 8, .inl s_months)), (q_lengths, .inl (cA 5, 8, .inr (.inr (.inr (.inr (gro 8 r_lengths))))))]
abbrev w_X1_allDays (a0 : Nat) (q_months : Nat) (q_lengths : Nat) (r_lengths : Nat → Nat) (cA : Nat → ClassId) (s_years : Int32) (s_months : Nat → Int32) (s_lengths : Nat → Nat → Int32) : va_W := [(a0, .inr (1, [.ref q_lengths, .ref q_months, .int s_years])), (q_months, .inl (cA 1, 8, .inl s_months)), (q_lengths, .inl (cA 5, 8, .inr (.inr (.inr (.inr (gro 8 r_lengths))))))] ++ grw 8 r_lengths (cA 1) 13 s_lengths
theorem hn_X1_allDays_X1 : ∀ w ∈ u_ws RX1 TX1 3, w ∈ wsX1_allDays := by decide +kernel
theorem hw_X1_allDays_f20 : Cond.fieldLink RX1 20 "OrphanWave$Calendar" "years" "I" ∈ wsX1_allDays := by decide +kernel
theorem hw_X1_allDays_f16 : Cond.fieldLink RX1 16 "OrphanWave$Calendar" "months" "[I" ∈ wsX1_allDays := by decide +kernel

def f_X1_allDays_4 (s_years : Int32) (s_months : Nat → Int32) (s_lengths : Nat → Nat → Int32) : Nat → (Int32) → (Int32) → Option ((Int32))
  | 0, _, _ => none
  | k + 1, x1, x2 =>
    pbr (s_years ≤ x2)
      (some (x1))
      (pgd (pin x2 8) (
      pcl (f_X1_daysOf x2 (s_months x2.toNatClampNeg) s_lengths) (fun r_3 => (
      plt ((x1 + r_3) : Int32) (fun x1_5 => (
      plt (x2 + (1 : Int32) : Int32) (fun x2_6 => (
      (f_X1_allDays_4 s_years s_months s_lengths k) x1_5 x2_6))))))))

set_option maxRecDepth 100000 in
set_option maxHeartbeats 4000000 in
theorem k_X1_allDays_4 {p : Program} {l : Launch} {e : Env} {s : State} {m : MethodId} {args : Array Value} {below : List Frame} {meth : Method} {c : Code} {A : Nat → Prop} {D : va_G} {cA : Nat → ClassId} (C0 : MX p s m args meth c cX1_allDays 3 wsX1_allDays RX1 (some .int) D cA) (hA : ∀ q, s.heap.size ≤ q → A q) {a0 : Nat} {q_months : Nat} {q_lengths : Nat} {r_lengths : Nat → Nat} {s_years : Int32} {s_months : Nat → Int32} {s_lengths : Nat → Nat → Int32} {o_r : Int32} : ∀ (k : Nat) (x1 : Int32) (x2 : Int32), f_X1_allDays_4 s_years s_months s_lengths k x1 x2 = some o_r → ∀ (H : Heap) (locs : List Loc), va_P D vwCl (w_X1_allDays a0 q_months q_lengths r_lengths cA s_years s_months s_lengths) H → va_D A (w_X1_allDays a0 q_months q_lengths r_lengths cA s_years s_months s_lengths) → va_S A s.heap H locs → ∀ ls : Array Slot, lv_has ls 3 [(0, .ref a0), (1, .int x1), (2, .int x2)] → W p l e rm_X1_allDays s m args below meth c H locs 0 0 (MQ below (CQ D (some (.int o_r)) (w_X1_allDays a0 q_months q_lengths r_lengths cA s_years s_months s_lengths) A) args s 0 0 A) (F0 m 4 ls []) := by
  obtain ⟨hx, hb, hml, hown, hts, hr, hlocks, hX⟩ := C0
  have hK := hX.1
  have hN := hX.2
  intro k
  induction k with
  | zero =>
    intro x1 x2 hf
    cases hf
  | succ k ih =>
    intro x1 x2 hf H locs hP hD hS ls hl
    rw [f_X1_allDays_4] at hf
    refine lv_iload_n hx hb dX1_allDays_4 rfl (lv_at hl 2 rfl) ?_
    refine lv_aload_n hx hb dX1_allDays_5 rfl (lv_at hl 0 rfl) ?_
    refine va_get (D := D) (ci := 1) (v := .int s_years) (C := RX1) (T := TX1) (N := 3) hx hb hts hn_X1_allDays_X1 hown hK hP 0 rfl rfl 2 (by decide) (hts _ hw_X1_allDays_f20) (fun _ h9 => h9) rfl dX1_allDays_6 ?_
    refine lv_icmp_ge (tgt := 32) hx hb dX1_allDays_9 (by decide) (fun c_1 => ?_) (fun c_1 => ?_)
    · have hf := pbr_t c_1 hf
      refine lv_iload_n hx hb dX1_allDays_32 rfl (lv_at hl 1 rfl) ?_
      obtain rfl := pe1 hf
      exact m_iret hx hb hr hlocks hP hS dX1_allDays_33
    have hf := pbr_f c_1 hf
    refine lv_iload_n hx hb dX1_allDays_12 rfl (lv_at hl 1 rfl) ?_
    refine lv_aload_n hx hb dX1_allDays_13 rfl (lv_at hl 0 rfl) ?_
    refine lv_iload_n hx hb dX1_allDays_14 rfl (lv_at hl 2 rfl) ?_
    refine lv_aload_n hx hb dX1_allDays_15 rfl (lv_at hl 0 rfl) ?_
    refine va_get (D := D) (ci := 1) (v := .ref q_months) (C := RX1) (T := TX1) (N := 3) hx hb hts hn_X1_allDays_X1 hown hK hP 0 rfl rfl 1 (by decide) (hts _ hw_X1_allDays_f16) (fun _ h9 => h9) rfl dX1_allDays_16 ?_
    refine lv_iload_n hx hb dX1_allDays_19 rfl (lv_at hl 2 rfl) ?_
    obtain ⟨g_2, hf⟩ := pgd_e hf
    refine va_iald hx hb hK hP 1 1 rfl rfl g_2 dX1_allDays_20 ?_
    obtain ⟨r_3, hc_4, hf⟩ := pcl_e hf
    refine m_callV2 (As := [.int x2, .int (s_months x2.toNatClampNeg)]) (rest := [.int x1]) ⟨hx, hb, hml, hown, hts⟩ hX (ct_X1_daysOf l D cA x2 (s_months x2.toNatClampNeg) a0 q_lengths q_months r_lengths s_years s_lengths r_3 hc_4) (cwV 2 hts gX1_allDays_X1_daysOf rfl rfl rfl (by decide +kernel) ⟨Nat.le_of_ble_eq_true rfl, Nat.le_of_ble_eq_true rfl⟩) hP hD hS hA [0, 2, 3, 4, 5, 6, 7, 8, 9, 10] [1] 11 (by decide) rfl rfl (WS' := (w_X1_allDays a0 q_months q_lengths r_lengths cA s_years s_months s_lengths)) (WR := [(q_months, .inl (cA 1, 8, .inl s_months))]) rfl rfl rfl rfl (by decide) (by decide) 0 1 rfl rfl rfl hl.1 rfl (st' := [.int r_3, .int x1]) rfl (Nat.le_of_ble_eq_true rfl) ⟨Nat.zero_le _, Nat.zero_le _⟩ dX1_allDays_21 (fun H locs hP hD hS => ?_)
    refine lv_iadd hx hb dX1_allDays_24 ?_
    refine lv_topi (fun x1_5 ex1_5 => ?_)
    have hf := plt_e ex1_5 hf
    refine lv_istore_n (lv' := [(1, .int x1_5), (0, .ref a0), (2, .int x2)]) hx hb dX1_allDays_25 rfl hl (by decide) rfl (fun ls hl => ?_)
    obtain ⟨x2_6, ex2_6⟩ : ∃ z : Int32, z = x2 + (1 : Int32) := ⟨_, rfl⟩
    have hf := plt_e ex2_6 hf
    refine lv_iinc (v := x2_6) (lv' := [(2, .int x2_6), (1, .int x1_5), (0, .ref a0)]) hx hb dX1_allDays_26 hl (k := 2) rfl (by rw [ex2_6]; rfl) (by decide) rfl (fun ls hl => ?_)
    refine lv_goto (tgt := 4) hx hb dX1_allDays_29 (by decide) ?_
    exact ih x1_5 x2_6 hf _ _ hP hD hS ls (lv_sub hl [2, 1, 0] rfl)

def f_X1_allDays (s_years : Int32) (s_months : Nat → Int32) (s_lengths : Nat → Nat → Int32) : Option ((Int32)) :=
  f_X1_allDays_4 s_years s_months s_lengths FU (0 : Int32) (0 : Int32)

set_option maxRecDepth 100000 in
set_option maxHeartbeats 4000000 in
theorem ct_X1_allDays (l : Launch) (D : va_G) (cA : Nat → ClassId) (a0 : Nat) (q_months : Nat) (q_lengths : Nat) (r_lengths : Nat → Nat) (s_years : Int32) (s_months : Nat → Int32) (s_lengths : Nat → Nat → Int32) (o_r : Int32) (hf : f_X1_allDays s_years s_months s_lengths = some o_r) : CT l yX1_allDays wsX1_allDays rm_X1_allDays D cA [.ref a0] (w_X1_allDays a0 q_months q_lengths r_lengths cA s_years s_months s_lengths) (w_X1_allDays a0 q_months q_lengths r_lengths cA s_years s_months s_lengths) (some (.int o_r)) := by
  refine CT.ofW (cc := cX1_allDays) (maxL := 3) (ret := (some .int)) (by decide +kernel) rfl (Nat.le_of_ble_eq_true rfl) ?_
  intro p e s m below meth c A C0 hA hP hD ls hl
  have C0 : MX p s m [.ref a0].toArray meth c cX1_allDays 3 wsX1_allDays RX1 (some .int) D cA := C0
  have hl : lv_has ls 3 [(0, .ref a0)] := hl
  obtain ⟨hx, hb, hml, hown, hts, hr, hlocks, hX⟩ := id C0
  have hK := hX.1
  have hN := hX.2
  have hS : va_S A s.heap s.heap [] := va_S.rf
  unfold f_X1_allDays at hf
  refine lv_iconst (v := (0 : Int32)) hx hb dX1_allDays_0 (by decide) ?_
  refine lv_istore_n (lv' := [(1, .int (0 : Int32)), (0, .ref a0)]) hx hb dX1_allDays_1 rfl hl (by decide) rfl (fun ls hl => ?_)
  refine lv_iconst (v := (0 : Int32)) hx hb dX1_allDays_2 (by decide) ?_
  refine lv_istore_n (lv' := [(2, .int (0 : Int32)), (1, .int (0 : Int32)), (0, .ref a0)]) hx hb dX1_allDays_3 rfl hl (by decide) rfl (fun ls hl => ?_)
  exact k_X1_allDays_4 C0 hA FU (0 : Int32) (0 : Int32) hf _ _ hP hD hS ls (lv_sub hl [2, 1, 0] rfl)

/-! ===== OrphanWave$Calendar.partOfDay(II)I ===== -/
abbrev rm_X1_partOfDay : Room := { frames := 0, cells := 0, slots := 0, locals := 0 }
abbrev wx_X1_partOfDay (a0 : Nat) (q_months : Nat) (q_lengths : Nat) (r_lengths : Nat → Nat) (cA : Nat → ClassId) (s_years : Int32) (s_months : Nat → Int32) (s_lengths : Nat → Nat → Int32) : va_W := [(a0, .inr (1, [.ref q_lengths, .ref q_months, .int s_years])), (q_months, .inl (cA 1, 8, .inl s_months)), (q_lengths, .inl (cA 5, 8, .inr (.inr (.inr (.inr (gro 8 r_lengths))))))]
abbrev w_X1_partOfDay (a0 : Nat) (q_months : Nat) (q_lengths : Nat) (r_lengths : Nat → Nat) (cA : Nat → ClassId) (s_years : Int32) (s_months : Nat → Int32) (s_lengths : Nat → Nat → Int32) : va_W := [(a0, .inr (1, [.ref q_lengths, .ref q_months, .int s_years])), (q_months, .inl (cA 1, 8, .inl s_months)), (q_lengths, .inl (cA 5, 8, .inr (.inr (.inr (.inr (gro 8 r_lengths))))))] ++ grw 8 r_lengths (cA 1) 13 s_lengths
theorem hn_X1_partOfDay_X1 : ∀ w ∈ u_ws RX1 TX1 3, w ∈ wsX1_partOfDay := by decide +kernel
theorem hw_X1_partOfDay_f20 : Cond.fieldLink RX1 20 "OrphanWave$Calendar" "years" "I" ∈ wsX1_partOfDay := by decide +kernel
theorem hw_X1_partOfDay_c64 : Cond.constant RX1 64 (-1000000) ∈ wsX1_partOfDay := by decide +kernel
theorem hw_X1_partOfDay_f16 : Cond.fieldLink RX1 16 "OrphanWave$Calendar" "months" "[I" ∈ wsX1_partOfDay := by decide +kernel
theorem hw_X1_partOfDay_f11 : Cond.fieldLink RX1 11 "OrphanWave$Calendar" "lengths" "[[I" ∈ wsX1_partOfDay := by decide +kernel

def f_X1_partOfDay_17 (r5 : (Int32) → (Int32) → Option ((Int32))) (s_years : Int32) (s_months : Nat → Int32) (s_lengths : Nat → Nat → Int32) (x1 : Int32) (x2 : Int32) : Nat → (Int32) → (Int32) → (Int32) → Option ((Int32))
  | 0, _, _, _ => none
  | k + 1, x3, x4, x5 =>
    pgd (pin x4 8) (
    pbr ((s_months x4.toNatClampNeg) ≤ x5)
      (plt (x4 + (1 : Int32) : Int32) (fun x4_3 => (
      r5 x3 x4_3)))
      (pgd (pin x5 13) (
      pbr ((s_lengths x4.toNatClampNeg x5.toNatClampNeg) ≤ x3)
        (plt ((x3 - (s_lengths x4.toNatClampNeg x5.toNatClampNeg)) : Int32) (fun x3_6 => (
        plt (x5 + (1 : Int32) : Int32) (fun x5_7 => (
        (f_X1_partOfDay_17 r5 s_years s_months s_lengths x1 x2 k) x3_6 x4 x5_7)))))
        (pbr (x2 = 0)
          (some (x4))
          (pbr (x2 = (1 : Int32))
            (some (x5))
            (some (x3)))))))

set_option maxRecDepth 100000 in
set_option maxHeartbeats 4000000 in
theorem k_X1_partOfDay_17 {p : Program} {l : Launch} {e : Env} {s : State} {m : MethodId} {args : Array Value} {below : List Frame} {meth : Method} {c : Code} {A : Nat → Prop} {D : va_G} {cA : Nat → ClassId} (C0 : MX p s m args meth c cX1_partOfDay 6 wsX1_partOfDay RX1 (some .int) D cA) (hA : ∀ q, s.heap.size ≤ q → A q) {a0 : Nat} {q_months : Nat} {q_lengths : Nat} {r_lengths : Nat → Nat} {s_years : Int32} {s_months : Nat → Int32} {s_lengths : Nat → Nat → Int32} {x1 : Int32} {x2 : Int32} {o_r : Int32} {r5 : (Int32) → (Int32) → Option ((Int32))} (hr5 : ∀ (x3 : Int32) (x4 : Int32), r5 x3 x4 = some o_r → ∀ (H : Heap) (locs : List Loc), va_P D vwCl (w_X1_partOfDay a0 q_months q_lengths r_lengths cA s_years s_months s_lengths) H → va_D A (w_X1_partOfDay a0 q_months q_lengths r_lengths cA s_years s_months s_lengths) → va_S A s.heap H locs → ∀ ls : Array Slot, lv_has ls 6 [(0, .ref a0), (2, .int x2), (3, .int x3), (4, .int x4)] → W p l e rm_X1_partOfDay s m args below meth c H locs 0 0 (MQ below (CQ D (some (.int o_r)) (w_X1_partOfDay a0 q_months q_lengths r_lengths cA s_years s_months s_lengths) A) args s 0 0 A) (F0 m 5 ls [])) : ∀ (k : Nat) (x3 : Int32) (x4 : Int32) (x5 : Int32), f_X1_partOfDay_17 r5 s_years s_months s_lengths x1 x2 k x3 x4 x5 = some o_r → ∀ (H : Heap) (locs : List Loc), va_P D vwCl (w_X1_partOfDay a0 q_months q_lengths r_lengths cA s_years s_months s_lengths) H → va_D A (w_X1_partOfDay a0 q_months q_lengths r_lengths cA s_years s_months s_lengths) → va_S A s.heap H locs → ∀ ls : Array Slot, lv_has ls 6 [(0, .ref a0), (2, .int x2), (3, .int x3), (4, .int x4), (5, .int x5)] → W p l e rm_X1_partOfDay s m args below meth c H locs 0 0 (MQ below (CQ D (some (.int o_r)) (w_X1_partOfDay a0 q_months q_lengths r_lengths cA s_years s_months s_lengths) A) args s 0 0 A) (F0 m 17 ls []) := by
  obtain ⟨hx, hb, hml, hown, hts, hr, hlocks, hX⟩ := C0
  have hK := hX.1
  have hN := hX.2
  intro k
  induction k with
  | zero =>
    intro x3 x4 x5 hf
    cases hf
  | succ k ih =>
    intro x3 x4 x5 hf H locs hP hD hS ls hl
    rw [f_X1_partOfDay_17] at hf
    refine lv_iload hx hb dX1_partOfDay_17 (lv_at hl 4 rfl) ?_
    refine lv_aload_n hx hb dX1_partOfDay_19 rfl (lv_at hl 0 rfl) ?_
    refine va_get (D := D) (ci := 1) (v := .ref q_months) (C := RX1) (T := TX1) (N := 3) hx hb hts hn_X1_partOfDay_X1 hown hK hP 0 rfl rfl 1 (by decide) (hts _ hw_X1_partOfDay_f16) (fun _ h9 => h9) rfl dX1_partOfDay_20 ?_
    refine lv_iload hx hb dX1_partOfDay_23 (lv_at hl 3 rfl) ?_
    obtain ⟨g_1, hf⟩ := pgd_e hf
    refine va_iald hx hb hK hP 1 1 rfl rfl g_1 dX1_partOfDay_25 ?_
    refine lv_icmp_ge (tgt := 83) hx hb dX1_partOfDay_26 (by decide) (fun c_2 => ?_) (fun c_2 => ?_)
    · have hf := pbr_t c_2 hf
      obtain ⟨x4_3, ex4_3⟩ : ∃ z : Int32, z = x4 + (1 : Int32) := ⟨_, rfl⟩
      have hf := plt_e ex4_3 hf
      refine lv_iinc (v := x4_3) (lv' := [(4, .int x4_3), (0, .ref a0), (2, .int x2), (3, .int x3), (5, .int x5)]) hx hb dX1_partOfDay_83 hl (k := 3) rfl (by rw [ex4_3]; rfl) (by decide) rfl (fun ls hl => ?_)
      refine lv_goto (tgt := 5) hx hb dX1_partOfDay_86 (by decide) ?_
      exact hr5 x3 x4_3 hf _ _ hP hD hS ls (lv_sub hl [1, 2, 3, 0] rfl)
    have hf := pbr_f c_2 hf
    refine lv_iload_n hx hb dX1_partOfDay_29 rfl (lv_at hl 2 rfl) ?_
    refine lv_aload_n hx hb dX1_partOfDay_30 rfl (lv_at hl 0 rfl) ?_
    refine va_get (D := D) (ci := 1) (v := .ref q_lengths) (C := RX1) (T := TX1) (N := 3) hx hb hts hn_X1_partOfDay_X1 hown hK hP 0 rfl rfl 0 (by decide) (hts _ hw_X1_partOfDay_f11) (fun _ h9 => h9) rfl dX1_partOfDay_31 ?_
    refine lv_iload hx hb dX1_partOfDay_34 (lv_at hl 3 rfl) ?_
    refine m_aald hx hb hK hP 2 rfl g_1 dX1_partOfDay_36 ?_
    refine lv_iload hx hb dX1_partOfDay_37 (lv_at hl 4 rfl) ?_
    obtain ⟨g_4, hf⟩ := pgd_e hf
    refine m_rald (i := x4) hx hb hK hP rfl g_1 g_4 dX1_partOfDay_39 ?_
    refine lv_icmp_ge (tgt := 64) hx hb dX1_partOfDay_40 (by decide) (fun c_5 => ?_) (fun c_5 => ?_)
    · have hf := pbr_t c_5 hf
      refine lv_iload_n hx hb dX1_partOfDay_64 rfl (lv_at hl 2 rfl) ?_
      refine lv_aload_n hx hb dX1_partOfDay_65 rfl (lv_at hl 0 rfl) ?_
      refine va_get (D := D) (ci := 1) (v := .ref q_lengths) (C := RX1) (T := TX1) (N := 3) hx hb hts hn_X1_partOfDay_X1 hown hK hP 0 rfl rfl 0 (by decide) (hts _ hw_X1_partOfDay_f11) (fun _ h9 => h9) rfl dX1_partOfDay_66 ?_
      refine lv_iload hx hb dX1_partOfDay_69 (lv_at hl 3 rfl) ?_
      refine m_aald hx hb hK hP 2 rfl g_1 dX1_partOfDay_71 ?_
      refine lv_iload hx hb dX1_partOfDay_72 (lv_at hl 4 rfl) ?_
      refine m_rald (i := x4) hx hb hK hP rfl g_1 g_4 dX1_partOfDay_74 ?_
      refine lv_isub hx hb dX1_partOfDay_75 ?_
      refine lv_topi (fun x3_6 ex3_6 => ?_)
      have hf := plt_e ex3_6 hf
      refine lv_istore_n (lv' := [(3, .int x3_6), (0, .ref a0), (2, .int x2), (4, .int x4), (5, .int x5)]) hx hb dX1_partOfDay_76 rfl hl (by decide) rfl (fun ls hl => ?_)
      obtain ⟨x5_7, ex5_7⟩ : ∃ z : Int32, z = x5 + (1 : Int32) := ⟨_, rfl⟩
      have hf := plt_e ex5_7 hf
      refine lv_iinc (v := x5_7) (lv' := [(5, .int x5_7), (3, .int x3_6), (0, .ref a0), (2, .int x2), (4, .int x4)]) hx hb dX1_partOfDay_77 hl (k := 4) rfl (by rw [ex5_7]; rfl) (by decide) rfl (fun ls hl => ?_)
      refine lv_goto (tgt := 17) hx hb dX1_partOfDay_80 (by decide) ?_
      exact ih x3_6 x4 x5_7 hf _ _ hP hD hS ls (lv_sub hl [2, 3, 1, 4, 0] rfl)
    have hf := pbr_f c_5 hf
    refine lv_iload_n hx hb dX1_partOfDay_43 rfl (lv_at hl 1 rfl) ?_
    refine lv_if_ne (tgt := 52) hx hb dX1_partOfDay_44 (by decide) (fun c_8 => ?_) (fun c_8 => ?_)
    · have hf := pbr_f c_8 hf
      refine lv_iload_n hx hb dX1_partOfDay_52 rfl (lv_at hl 1 rfl) ?_
      refine lv_iconst (v := (1 : Int32)) hx hb dX1_partOfDay_53 (by decide) ?_
      refine lv_icmp_ne (tgt := 62) hx hb dX1_partOfDay_54 (by decide) (fun c_9 => ?_) (fun c_9 => ?_)
      · have hf := pbr_f c_9 hf
        refine lv_iload_n hx hb dX1_partOfDay_62 rfl (lv_at hl 2 rfl) ?_
        obtain rfl := pe1 hf
        exact m_iret hx hb hr hlocks hP hS dX1_partOfDay_63
      have hf := pbr_t c_9 hf
      refine lv_iload hx hb dX1_partOfDay_57 (lv_at hl 4 rfl) ?_
      refine lv_goto (tgt := 63) hx hb dX1_partOfDay_59 (by decide) ?_
      obtain rfl := pe1 hf
      exact m_iret hx hb hr hlocks hP hS dX1_partOfDay_63
    have hf := pbr_t c_8 hf
    refine lv_iload hx hb dX1_partOfDay_47 (lv_at hl 3 rfl) ?_
    refine lv_goto (tgt := 63) hx hb dX1_partOfDay_49 (by decide) ?_
    obtain rfl := pe1 hf
    exact m_iret hx hb hr hlocks hP hS dX1_partOfDay_63

def f_X1_partOfDay_5 (s_years : Int32) (s_months : Nat → Int32) (s_lengths : Nat → Nat → Int32) (x1 : Int32) (x2 : Int32) : Nat → (Int32) → (Int32) → Option ((Int32))
  | 0, _, _ => none
  | k + 1, x3, x4 =>
    pbr (s_years ≤ x4)
      (some ((-1000000 : Int32)))
      (f_X1_partOfDay_17 (f_X1_partOfDay_5 s_years s_months s_lengths x1 x2 k) s_years s_months s_lengths x1 x2 FU x3 x4 (0 : Int32))

set_option maxRecDepth 100000 in
set_option maxHeartbeats 4000000 in
theorem k_X1_partOfDay_5 {p : Program} {l : Launch} {e : Env} {s : State} {m : MethodId} {args : Array Value} {below : List Frame} {meth : Method} {c : Code} {A : Nat → Prop} {D : va_G} {cA : Nat → ClassId} (C0 : MX p s m args meth c cX1_partOfDay 6 wsX1_partOfDay RX1 (some .int) D cA) (hA : ∀ q, s.heap.size ≤ q → A q) {a0 : Nat} {q_months : Nat} {q_lengths : Nat} {r_lengths : Nat → Nat} {s_years : Int32} {s_months : Nat → Int32} {s_lengths : Nat → Nat → Int32} {x1 : Int32} {x2 : Int32} {o_r : Int32} : ∀ (k : Nat) (x3 : Int32) (x4 : Int32), f_X1_partOfDay_5 s_years s_months s_lengths x1 x2 k x3 x4 = some o_r → ∀ (H : Heap) (locs : List Loc), va_P D vwCl (w_X1_partOfDay a0 q_months q_lengths r_lengths cA s_years s_months s_lengths) H → va_D A (w_X1_partOfDay a0 q_months q_lengths r_lengths cA s_years s_months s_lengths) → va_S A s.heap H locs → ∀ ls : Array Slot, lv_has ls 6 [(0, .ref a0), (2, .int x2), (3, .int x3), (4, .int x4)] → W p l e rm_X1_partOfDay s m args below meth c H locs 0 0 (MQ below (CQ D (some (.int o_r)) (w_X1_partOfDay a0 q_months q_lengths r_lengths cA s_years s_months s_lengths) A) args s 0 0 A) (F0 m 5 ls []) := by
  obtain ⟨hx, hb, hml, hown, hts, hr, hlocks, hX⟩ := C0
  have hK := hX.1
  have hN := hX.2
  intro k
  induction k with
  | zero =>
    intro x3 x4 hf
    cases hf
  | succ k ih =>
    intro x3 x4 hf H locs hP hD hS ls hl
    rw [f_X1_partOfDay_5] at hf
    refine lv_iload hx hb dX1_partOfDay_5 (lv_at hl 3 rfl) ?_
    refine lv_aload_n hx hb dX1_partOfDay_7 rfl (lv_at hl 0 rfl) ?_
    refine va_get (D := D) (ci := 1) (v := .int s_years) (C := RX1) (T := TX1) (N := 3) hx hb hts hn_X1_partOfDay_X1 hown hK hP 0 rfl rfl 2 (by decide) (hts _ hw_X1_partOfDay_f20) (fun _ h9 => h9) rfl dX1_partOfDay_8 ?_
    refine lv_icmp_ge (tgt := 89) hx hb dX1_partOfDay_11 (by decide) (fun c_1 => ?_) (fun c_1 => ?_)
    · have hf := pbr_t c_1 hf
      refine lv_ldc (v := (-1000000 : Int32)) hx hb hown (hts _ hw_X1_partOfDay_c64) dX1_partOfDay_89 ?_
      obtain rfl := pe1 hf
      exact m_iret hx hb hr hlocks hP hS dX1_partOfDay_91
    have hf := pbr_f c_1 hf
    refine lv_iconst (v := (0 : Int32)) hx hb dX1_partOfDay_14 (by decide) ?_
    refine lv_istore (lv' := [(5, .int (0 : Int32)), (0, .ref a0), (2, .int x2), (3, .int x3), (4, .int x4)]) hx hb dX1_partOfDay_15 hl (by decide) rfl (fun ls hl => ?_)
    exact k_X1_partOfDay_17 ⟨hx, hb, hml, hown, hts, hr, hlocks, hX⟩ hA ih FU x3 x4 (0 : Int32) hf _ _ hP hD hS ls (lv_sub hl [1, 2, 3, 4, 0] rfl)

def f_X1_partOfDay (x1 : Int32) (x2 : Int32) (s_years : Int32) (s_months : Nat → Int32) (s_lengths : Nat → Nat → Int32) : Option ((Int32)) :=
  f_X1_partOfDay_5 s_years s_months s_lengths x1 x2 FU x1 (0 : Int32)

set_option maxRecDepth 100000 in
set_option maxHeartbeats 4000000 in
theorem ct_X1_partOfDay (l : Launch) (D : va_G) (cA : Nat → ClassId) (x1 : Int32) (x2 : Int32) (a0 : Nat) (q_months : Nat) (q_lengths : Nat) (r_lengths : Nat → Nat) (s_years : Int32) (s_months : Nat → Int32) (s_lengths : Nat → Nat → Int32) (o_r : Int32) (hf : f_X1_partOfDay x1 x2 s_years s_months s_lengths = some o_r) : CT l yX1_partOfDay wsX1_partOfDay rm_X1_partOfDay D cA [.ref a0, .int x1, .int x2] (w_X1_partOfDay a0 q_months q_lengths r_lengths cA s_years s_months s_lengths) (w_X1_partOfDay a0 q_months q_lengths r_lengths cA s_years s_months s_lengths) (some (.int o_r)) := by
  refine CT.ofW (cc := cX1_partOfDay) (maxL := 6) (ret := (some .int)) (by decide +kernel) rfl (Nat.le_of_ble_eq_true rfl) ?_
  intro p e s m below meth c A C0 hA hP hD ls hl
  have C0 : MX p s m [.ref a0, .int x1, .int x2].toArray meth c cX1_partOfDay 6 wsX1_partOfDay RX1 (some .int) D cA := C0
  have hl : lv_has ls 6 [(0, .ref a0), (1, .int x1), (2, .int x2)] := hl
  obtain ⟨hx, hb, hml, hown, hts, hr, hlocks, hX⟩ := id C0
  have hK := hX.1
  have hN := hX.2
  have hS : va_S A s.heap s.heap [] := va_S.rf
  unfold f_X1_partOfDay at hf
  refine lv_iload_n hx hb dX1_partOfDay_0 rfl (lv_at hl 1 rfl) ?_
  refine lv_istore_n (lv' := [(3, .int x1), (0, .ref a0), (1, .int x1), (2, .int x2)]) hx hb dX1_partOfDay_1 rfl hl (by decide) rfl (fun ls hl => ?_)
  refine lv_iconst (v := (0 : Int32)) hx hb dX1_partOfDay_2 (by decide) ?_
  refine lv_istore (lv' := [(4, .int (0 : Int32)), (3, .int x1), (0, .ref a0), (1, .int x1), (2, .int x2)]) hx hb dX1_partOfDay_3 hl (by decide) rfl (fun ls hl => ?_)
  exact k_X1_partOfDay_5 C0 hA FU x1 (0 : Int32) hf _ _ hP hD hS ls (lv_sub hl [2, 4, 1, 0] rfl)
