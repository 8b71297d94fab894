/-! ===== OrphanWave$Ocean.measureTo(I[I)V ===== -/
abbrev rm_X4_measureTo : Room := { frames := 2, cells := 0, slots := 0, locals := 48 }
abbrev w_X4_measureTo (a0 : Nat) (b2 : Nat) (q_depths : Nat) (q_figures : Nat) (q_times : Nat) (cA : Nat → ClassId) (s_pace : Int32) (s_fade : Int32) (s_b2 : Nat → Int32) (s_depths : Nat → Int32) : va_W := [(a0, .inr (4, [.ref q_depths, .ref q_figures, .ref q_times, .int s_pace, .int s_fade])), (b2, .inl (cA 1, 48, .inl s_b2)), (q_depths, .inl (cA 1, 48, .inl s_depths))]
theorem hn_X4_measureTo_X4 : ∀ w ∈ u_ws RX4 TX4 5, w ∈ wsX4_measureTo := by decide +kernel
theorem hw_X4_measureTo_f9 : Cond.fieldLink RX4 9 "OrphanWave$Ocean" "depths" "[I" ∈ wsX4_measureTo := by decide +kernel

def f_X4_measureTo_38 (s_pace : Int32) (s_depths : Nat → Int32) (x1 : Int32) : Nat → (Int32) → (Int32) → (Nat → Int32) → Option ((Nat → Int32))
  | 0, _, _, _ => none
  | k + 1, x3, x4, s_b2 =>
    pbr ((48 : Int32) ≤ x4)
      (some (s_b2))
      (pbr (x3 = 0)
        (some (s_b2))
        (pcl (f_X4_sweep s_pace s_b2 s_depths) (fun (r_3, b1_4) => (
        plt (x4 + (1 : Int32) : Int32) (fun x4_6 => (
        (f_X4_measureTo_38 s_pace s_depths x1 k) r_3 x4_6 b1_4))))))

set_option maxRecDepth 100000 in
set_option maxHeartbeats 4000000 in
theorem k_X4_measureTo_38 {p : Program} {l : Launch} {e : Env} {s : State} {m : MethodId} {args : Array Value} {below : List Frame} {meth : Method} {c : Code} {A : Nat → Prop} {D : va_G} {cA : Nat → ClassId} (C0 : MX p s m args meth c cX4_measureTo 5 wsX4_measureTo RX4 none D cA) (hA : ∀ q, s.heap.size ≤ q → A q) {a0 : Nat} {b2 : Nat} {q_depths : Nat} {q_figures : Nat} {q_times : Nat} {s_pace : Int32} {s_fade : Int32} {s_depths : Nat → Int32} {x1 : Int32} {o_b2 : Nat → Int32} : ∀ (k : Nat) (x3 : Int32) (x4 : Int32) (s_b2 : Nat → Int32), f_X4_measureTo_38 s_pace s_depths x1 k x3 x4 s_b2 = some o_b2 → ∀ (H : Heap) (locs : List Loc), va_P D vwCl (w_X4_measureTo a0 b2 q_depths q_figures q_times cA s_pace s_fade s_b2 s_depths) H → va_D A (w_X4_measureTo a0 b2 q_depths q_figures q_times cA s_pace s_fade s_b2 s_depths) → va_S A s.heap H locs → ∀ ls : Array Slot, lv_has ls 5 [(0, .ref a0), (2, .ref b2), (3, .int x3), (4, .int x4)] → W p l e rm_X4_measureTo s m args below meth c H locs 0 0 (MQ below (CQ D none (w_X4_measureTo a0 b2 q_depths q_figures q_times cA s_pace s_fade o_b2 s_depths) A) args s 0 0 A) (F0 m 38 ls []) := by
  obtain ⟨hx, hb, hml, hown, hts, hr, hlocks, hX⟩ := C0
  have hK := hX.1
  have hN := hX.2
  intro k
  induction k with
  | zero =>
    intro x3 x4 s_b2 hf
    cases hf
  | succ k ih =>
    intro x3 x4 s_b2 hf H locs hP hD hS ls hl
    rw [f_X4_measureTo_38] at hf
    refine lv_iload hx hb dX4_measureTo_38 (lv_at hl 3 rfl) ?_
    refine lv_bipush (v := (48 : Int32)) hx hb dX4_measureTo_40 (by decide) ?_
    refine lv_icmp_ge (tgt := 61) hx hb dX4_measureTo_42 (by decide) (fun c_1 => ?_) (fun c_1 => ?_)
    · have hf := pbr_t c_1 hf
      obtain rfl := pe1 hf
      exact m_vret hx hb hr hlocks hP hS dX4_measureTo_61
    have hf := pbr_f c_1 hf
    refine lv_iload_n hx hb dX4_measureTo_45 rfl (lv_at hl 2 rfl) ?_
    refine lv_if_eq (tgt := 61) hx hb dX4_measureTo_46 (by decide) (fun c_2 => ?_) (fun c_2 => ?_)
    · have hf := pbr_t c_2 hf
      obtain rfl := pe1 hf
      exact m_vret hx hb hr hlocks hP hS dX4_measureTo_61
    have hf := pbr_f c_2 hf
    refine lv_aload_n hx hb dX4_measureTo_49 rfl (lv_at hl 0 rfl) ?_
    refine lv_aload_n hx hb dX4_measureTo_50 rfl (lv_at hl 1 rfl) ?_
    obtain ⟨⟨r_3, b1_4⟩, hc_5, hf⟩ := pcl_e hf
    refine m_callV2 (As := [.ref b2]) (rest := []) ⟨hx, hb, hml, hown, hts⟩ hX (ct_X4_sweep l D cA a0 b2 q_depths q_figures q_times s_pace s_fade s_b2 s_depths r_3 b1_4 hc_5) (cwV 1 hts gX4_measureTo_X4_sweep rfl rfl rfl (by decide +kernel) ⟨Nat.le_of_ble_eq_true rfl, Nat.le_of_ble_eq_true rfl⟩) hP hD hS hA [0, 1, 2] [] 3 (by decide) rfl rfl (WS' := (w_X4_measureTo a0 b2 q_depths q_figures q_times cA s_pace s_fade b1_4 s_depths)) (WR := []) rfl rfl rfl rfl (by decide) (by decide) 0 4 rfl rfl rfl hl.1 rfl (st' := [.int r_3]) rfl (Nat.le_of_ble_eq_true rfl) ⟨Nat.zero_le _, Nat.zero_le _⟩ dX4_measureTo_51 (fun H locs hP hD hS => ?_)
    refine lv_istore_n (lv' := [(3, .int r_3), (0, .ref a0), (2, .ref b2), (4, .int x4)]) hx hb dX4_measureTo_54 rfl hl (by decide) rfl (fun ls hl => ?_)
    obtain ⟨x4_6, ex4_6⟩ : ∃ z : Int32, z = x4 + (1 : Int32) := ⟨_, rfl⟩
    have hf := plt_e ex4_6 hf
    refine lv_iinc (v := x4_6) (lv' := [(4, .int x4_6), (3, .int r_3), (0, .ref a0), (2, .ref b2)]) hx hb dX4_measureTo_55 hl (k := 3) rfl (by rw [ex4_6]; rfl) (by decide) rfl (fun ls hl => ?_)
    refine lv_goto (tgt := 38) hx hb dX4_measureTo_58 (by decide) ?_
    exact ih r_3 x4_6 b1_4 hf _ _ hP hD hS ls (lv_sub hl [2, 3, 1, 0] rfl)

def f_X4_measureTo_2 (s_pace : Int32) (s_depths : Nat → Int32) (x1 : Int32) : Nat → (Int32) → (Nat → Int32) → Option ((Nat → Int32))
  | 0, _, _ => none
  | k + 1, x3, s_b2 =>
    pbr ((48 : Int32) ≤ x3)
      (pgd (pin x1 48) (
      pbr ((s_depths x1.toNatClampNeg) = 0)
        (some (s_b2))
        (plt (upd s_b2 x1.toNatClampNeg (0 : Int32) : Nat → Int32) (fun f_4 => (
        f_X4_measureTo_38 s_pace s_depths x1 FU (1 : Int32) (0 : Int32) f_4)))))
      (pgd (pin x3 48) (
      plt (upd s_b2 x3.toNatClampNeg (-9 : Int32) : Nat → Int32) (fun f_6 => (
      plt (x3 + (1 : Int32) : Int32) (fun x3_7 => (
      (f_X4_measureTo_2 s_pace s_depths x1 k) x3_7 f_6))))))

set_option maxRecDepth 100000 in
set_option maxHeartbeats 4000000 in
theorem k_X4_measureTo_2 {p : Program} {l : Launch} {e : Env} {s : State} {m : MethodId} {args : Array Value} {below : List Frame} {meth : Method} {c : Code} {A : Nat → Prop} {D : va_G} {cA : Nat → ClassId} (C0 : MX p s m args meth c cX4_measureTo 5 wsX4_measureTo RX4 none D cA) (hA : ∀ q, s.heap.size ≤ q → A q) {a0 : Nat} {b2 : Nat} {q_depths : Nat} {q_figures : Nat} {q_times : Nat} {s_pace : Int32} {s_fade : Int32} {s_depths : Nat → Int32} {x1 : Int32} {o_b2 : Nat → Int32} : ∀ (k : Nat) (x3 : Int32) (s_b2 : Nat → Int32), f_X4_measureTo_2 s_pace s_depths x1 k x3 s_b2 = some o_b2 → ∀ (H : Heap) (locs : List Loc), va_P D vwCl (w_X4_measureTo a0 b2 q_depths q_figures q_times cA s_pace s_fade s_b2 s_depths) H → va_D A (w_X4_measureTo a0 b2 q_depths q_figures q_times cA s_pace s_fade s_b2 s_depths) → va_S A s.heap H locs → ∀ ls : Array Slot, lv_has ls 5 [(0, .ref a0), (1, .int x1), (2, .ref b2), (3, .int x3)] → W p l e rm_X4_measureTo s m args below meth c H locs 0 0 (MQ below (CQ D none (w_X4_measureTo a0 b2 q_depths q_figures q_times cA s_pace s_fade o_b2 s_depths) A) args s 0 0 A) (F0 m 2 ls []) := by
  obtain ⟨hx, hb, hml, hown, hts, hr, hlocks, hX⟩ := C0
  have hK := hX.1
  have hN := hX.2
  intro k
  induction k with
  | zero =>
    intro x3 s_b2 hf
    cases hf
  | succ k ih =>
    intro x3 s_b2 hf H locs hP hD hS ls hl
    rw [f_X4_measureTo_2] at hf
    refine lv_iload_n hx hb dX4_measureTo_2 rfl (lv_at hl 3 rfl) ?_
    refine lv_bipush (v := (48 : Int32)) hx hb dX4_measureTo_3 (by decide) ?_
    refine lv_icmp_ge (tgt := 19) hx hb dX4_measureTo_5 (by decide) (fun c_1 => ?_) (fun c_1 => ?_)
    · have hf := pbr_t c_1 hf
      refine lv_aload_n hx hb dX4_measureTo_19 rfl (lv_at hl 0 rfl) ?_
      refine va_get (D := D) (ci := 4) (v := .ref q_depths) (C := RX4) (T := TX4) (N := 5) hx hb hts hn_X4_measureTo_X4 hown hK hP 0 rfl rfl 0 (by decide) (hts _ hw_X4_measureTo_f9) (fun _ h9 => h9) rfl dX4_measureTo_20 ?_
      refine lv_iload_n hx hb dX4_measureTo_23 rfl (lv_at hl 1 rfl) ?_
      obtain ⟨g_2, hf⟩ := pgd_e hf
      refine va_iald hx hb hK hP 2 1 rfl rfl g_2 dX4_measureTo_24 ?_
      refine lv_if_ne (tgt := 29) hx hb dX4_measureTo_25 (by decide) (fun c_3 => ?_) (fun c_3 => ?_)
      · have hf := pbr_f c_3 hf
        refine lv_aload_n hx hb dX4_measureTo_29 rfl (lv_at hl 2 rfl) ?_
        refine lv_iload_n hx hb dX4_measureTo_30 rfl (lv_at hl 1 rfl) ?_
        refine lv_iconst (v := (0 : Int32)) hx hb dX4_measureTo_31 (by decide) ?_
        refine va_iast hx hb hK hP hD hS 1 1 rfl rfl g_2 dX4_measureTo_32 (fun H locs hP hD hS => ?_)
        obtain ⟨f_4, ef_4⟩ : ∃ z : Nat → Int32, z = upd s_b2 x1.toNatClampNeg (0 : Int32) := ⟨_, rfl⟩
        have hf := plt_e ef_4 hf
        have hP : va_P D vwCl (w_X4_measureTo a0 b2 q_depths q_figures q_times cA s_pace s_fade f_4 s_depths) H := by rw [ef_4]; exact hP
        have hD : va_D A (w_X4_measureTo a0 b2 q_depths q_figures q_times cA s_pace s_fade f_4 s_depths) := by rw [ef_4]; exact hD
        refine lv_iconst (v := (1 : Int32)) hx hb dX4_measureTo_33 (by decide) ?_
        refine lv_istore_n (lv' := [(3, .int (1 : Int32)), (0, .ref a0), (1, .int x1), (2, .ref b2)]) hx hb dX4_measureTo_34 rfl hl (by decide) rfl (fun ls hl => ?_)
        refine lv_iconst (v := (0 : Int32)) hx hb dX4_measureTo_35 (by decide) ?_
        refine lv_istore (lv' := [(4, .int (0 : Int32)), (3, .int (1 : Int32)), (0, .ref a0), (1, .int x1), (2, .ref b2)]) hx hb dX4_measureTo_36 hl (by decide) rfl (fun ls hl => ?_)
        exact k_X4_measureTo_38 ⟨hx, hb, hml, hown, hts, hr, hlocks, hX⟩ hA FU (1 : Int32) (0 : Int32) f_4 hf _ _ hP hD hS ls (lv_sub hl [2, 4, 1, 0] rfl)
      have hf := pbr_t c_3 hf
      obtain rfl := pe1 hf
      exact m_vret hx hb hr hlocks hP hS dX4_measureTo_28
    have hf := pbr_f c_1 hf
    refine lv_aload_n hx hb dX4_measureTo_8 rfl (lv_at hl 2 rfl) ?_
    refine lv_iload_n hx hb dX4_measureTo_9 rfl (lv_at hl 3 rfl) ?_
    refine lv_bipush (v := (-9 : Int32)) hx hb dX4_measureTo_10 (by decide) ?_
    obtain ⟨g_5, hf⟩ := pgd_e hf
    refine va_iast hx hb hK hP hD hS 1 1 rfl rfl g_5 dX4_measureTo_12 (fun H locs hP hD hS => ?_)
    obtain ⟨f_6, ef_6⟩ : ∃ z : Nat → Int32, z = upd s_b2 x3.toNatClampNeg (-9 : Int32) := ⟨_, rfl⟩
    have hf := plt_e ef_6 hf
    have hP : va_P D vwCl (w_X4_measureTo a0 b2 q_depths q_figures q_times cA s_pace s_fade f_6 s_depths) H := by rw [ef_6]; exact hP
    have hD : va_D A (w_X4_measureTo a0 b2 q_depths q_figures q_times cA s_pace s_fade f_6 s_depths) := by rw [ef_6]; exact hD
    obtain ⟨x3_7, ex3_7⟩ : ∃ z : Int32, z = x3 + (1 : Int32) := ⟨_, rfl⟩
    have hf := plt_e ex3_7 hf
    refine lv_iinc (v := x3_7) (lv' := [(3, .int x3_7), (0, .ref a0), (1, .int x1), (2, .ref b2)]) hx hb dX4_measureTo_13 hl (k := 3) rfl (by rw [ex3_7]; rfl) (by decide) rfl (fun ls hl => ?_)
    refine lv_goto (tgt := 2) hx hb dX4_measureTo_16 (by decide) ?_
    exact ih x3_7 f_6 hf _ _ hP hD hS ls (lv_sub hl [1, 2, 3, 0] rfl)

def f_X4_measureTo (x1 : Int32) (s_pace : Int32) (s_b2 : Nat → Int32) (s_depths : Nat → Int32) : Option ((Nat → Int32)) :=
  f_X4_measureTo_2 s_pace s_depths x1 FU (0 : Int32) s_b2

set_option maxRecDepth 100000 in
set_option maxHeartbeats 4000000 in
theorem ct_X4_measureTo (l : Launch) (D : va_G) (cA : Nat → ClassId) (x1 : Int32) (a0 : Nat) (b2 : Nat) (q_depths : Nat) (q_figures : Nat) (q_times : Nat) (s_pace : Int32) (s_fade : Int32) (s_b2 : Nat → Int32) (s_depths : Nat → Int32) (o_b2 : Nat → Int32) (hf : f_X4_measureTo x1 s_pace s_b2 s_depths = some o_b2) : CT l yX4_measureTo wsX4_measureTo rm_X4_measureTo D cA [.ref a0, .int x1, .ref b2] (w_X4_measureTo a0 b2 q_depths q_figures q_times cA s_pace s_fade s_b2 s_depths) (w_X4_measureTo a0 b2 q_depths q_figures q_times cA s_pace s_fade o_b2 s_depths) none := by
  refine CT.ofW (cc := cX4_measureTo) (maxL := 5) (ret := none) (by decide +kernel) rfl (Nat.le_of_ble_eq_true rfl) ?_
  intro p e s m below meth c A C0 hA hP hD ls hl
  have C0 : MX p s m [.ref a0, .int x1, .ref b2].toArray meth c cX4_measureTo 5 wsX4_measureTo RX4 none D cA := C0
  have hl : lv_has ls 5 [(0, .ref a0), (1, .int x1), (2, .ref b2)] := hl
  obtain ⟨hx, hb, hml, hown, hts, hr, hlocks, hX⟩ := id C0
  have hK := hX.1
  have hN := hX.2
  have hS : va_S A s.heap s.heap [] := va_S.rf
  unfold f_X4_measureTo at hf
  refine lv_iconst (v := (0 : Int32)) hx hb dX4_measureTo_0 (by decide) ?_
  refine lv_istore_n (lv' := [(3, .int (0 : Int32)), (0, .ref a0), (1, .int x1), (2, .ref b2)]) hx hb dX4_measureTo_1 rfl hl (by decide) rfl (fun ls hl => ?_)
  exact k_X4_measureTo_2 C0 hA FU (0 : Int32) s_b2 hf _ _ hP hD hS ls (lv_sub hl [1, 2, 3, 0] rfl)

/-! ===== OrphanWave$Ocean.travel(II)I ===== -/
abbrev rm_X4_travel : Room := { frames := 3, cells := 0, slots := 0, locals := 72 }
abbrev w_X4_travel (a0 : Nat) (q_times : Nat) (q_depths : Nat) (q_figures : Nat) (cA : Nat → ClassId) (s_pace : Int32) (s_fade : Int32) (s_times : Nat → Int32) (s_depths : Nat → Int32) : va_W := [(a0, .inr (4, [.ref q_depths, .ref q_figures, .ref q_times, .int s_pace, .int s_fade])), (q_times, .inl (cA 1, 48, .inl s_times)), (q_depths, .inl (cA 1, 48, .inl s_depths))]
theorem hn_X4_travel_X4 : ∀ w ∈ u_ws RX4 TX4 5, w ∈ wsX4_travel := by decide +kernel
theorem hw_X4_travel_f18 : Cond.fieldLink RX4 18 "OrphanWave$Ocean" "times" "[I" ∈ wsX4_travel := by decide +kernel

def f_X4_travel (x1 : Int32) (x2 : Int32) (s_pace : Int32) (s_times : Nat → Int32) (s_depths : Nat → Int32) : Option ((Int32) × (Nat → Int32)) :=
  pcl (f_X4_measureTo x2 s_pace s_times s_depths) (fun b2_1 => (
  pgd (pin x1 48) (
  some ((b2_1 x1.toNatClampNeg), b2_1))))

set_option maxRecDepth 100000 in
set_option maxHeartbeats 4000000 in
theorem ct_X4_travel (l : Launch) (D : va_G) (cA : Nat → ClassId) (x1 : Int32) (x2 : Int32) (a0 : Nat) (q_times : Nat) (q_depths : Nat) (q_figures : Nat) (s_pace : Int32) (s_fade : Int32) (s_times : Nat → Int32) (s_depths : Nat → Int32) (o_r : Int32) (o_times : Nat → Int32) (hf : f_X4_travel x1 x2 s_pace s_times s_depths = some (o_r, o_times)) : CT l yX4_travel wsX4_travel rm_X4_travel D cA [.ref a0, .int x1, .int x2] (w_X4_travel a0 q_times q_depths q_figures cA s_pace s_fade s_times s_depths) (w_X4_travel a0 q_times q_depths q_figures cA s_pace s_fade o_times s_depths) (some (.int o_r)) := by
  refine CT.ofW (cc := cX4_travel) (maxL := 3) (ret := (some .int)) (by decide +kernel) rfl (Nat.le_of_ble_eq_true rfl) ?_
  intro p e s m below meth c A C0 hA hP hD ls hl
  have C0 : MX p s m [.ref a0, .int x1, .int x2].toArray meth c cX4_travel 3 wsX4_travel RX4 (some .int) D cA := C0
  have hl : lv_has ls 3 [(0, .ref a0), (1, .int x1), (2, .int x2)] := hl
  obtain ⟨hx, hb, hml, hown, hts, hr, hlocks, hX⟩ := id C0
  have hK := hX.1
  have hN := hX.2
  have hS : va_S A s.heap s.heap [] := va_S.rf
  unfold f_X4_travel at hf
  refine lv_aload_n hx hb dX4_travel_0 rfl (lv_at hl 0 rfl) ?_
  refine lv_iload_n hx hb dX4_travel_1 rfl (lv_at hl 2 rfl) ?_
  refine lv_aload_n hx hb dX4_travel_2 rfl (lv_at hl 0 rfl) ?_
  refine va_get (D := D) (ci := 4) (v := .ref q_times) (C := RX4) (T := TX4) (N := 5) hx hb hts hn_X4_travel_X4 hown hK hP 0 rfl rfl 2 (by decide) (hts _ hw_X4_travel_f18) (fun _ h9 => h9) rfl dX4_travel_3 ?_
  obtain ⟨b2_1, hc_2, hf⟩ := pcl_e hf
  refine m_callV2 (As := [.int x2, .ref q_times]) (rest := []) ⟨hx, hb, hml, hown, hts⟩ hX (ct_X4_measureTo l D cA x2 a0 q_times q_depths q_figures q_times s_pace s_fade s_times s_depths b2_1 hc_2) (cwV 2 hts gX4_travel_X4_measureTo rfl rfl rfl (by decide +kernel) ⟨Nat.le_of_ble_eq_true rfl, Nat.le_of_ble_eq_true rfl⟩) hP hD hS hA [0, 1, 2] [] 3 (by decide) rfl rfl (WS' := (w_X4_travel a0 q_times q_depths q_figures cA s_pace s_fade b2_1 s_depths)) (WR := []) rfl rfl rfl rfl (by decide) (by decide) 0 4 rfl rfl rfl hl.1 rfl (st' := []) rfl (Nat.le_of_ble_eq_true rfl) ⟨Nat.zero_le _, Nat.zero_le _⟩ dX4_travel_6 (fun H locs hP hD hS => ?_)
  refine lv_aload_n hx hb dX4_travel_9 rfl (lv_at hl 0 rfl) ?_
  refine va_get (D := D) (ci := 4) (v := .ref q_times) (C := RX4) (T := TX4) (N := 5) hx hb hts hn_X4_travel_X4 hown hK hP 0 rfl rfl 2 (by decide) (hts _ hw_X4_travel_f18) (fun _ h9 => h9) rfl dX4_travel_10 ?_
  refine lv_iload_n hx hb dX4_travel_13 rfl (lv_at hl 1 rfl) ?_
  obtain ⟨g_3, hf⟩ := pgd_e hf
  refine va_iald hx hb hK hP 1 1 rfl rfl g_3 dX4_travel_14 ?_
  obtain ⟨rfl, rfl⟩ := pe2 hf
  exact m_iret hx hb hr hlocks hP hS dX4_travel_15

/-! ===== OrphanWave$Ocean.soonest(IJ)I ===== -/
abbrev rm_X4_soonest : Room := { frames := 3, cells := 0, slots := 0, locals := 72 }
abbrev w_X4_soonest (a0 : Nat) (q_times : Nat) (q_depths : Nat) (q_figures : Nat) (cA : Nat → ClassId) (s_pace : Int32) (s_fade : Int32) (s_times : Nat → Int32) (s_depths : Nat → Int32) : va_W := [(a0, .inr (4, [.ref q_depths, .ref q_figures, .ref q_times, .int s_pace, .int s_fade])), (q_times, .inl (cA 1, 48, .inl s_times)), (q_depths, .inl (cA 1, 48, .inl s_depths))]
theorem hn_X4_soonest_X4 : ∀ w ∈ u_ws RX4 TX4 5, w ∈ wsX4_soonest := by decide +kernel
theorem hw_X4_soonest_f18 : Cond.fieldLink RX4 18 "OrphanWave$Ocean" "times" "[I" ∈ wsX4_soonest := by decide +kernel

def f_X4_soonest_68 (r16 : (Int32) → (Int32) → (Nat → Int32) → Option ((Int32) × (Nat → Int32))) (s_pace : Int32) (s_depths : Nat → Int32) (x1 : Int32) (x2 : Int64) (x5 : Int32) (s_times : Nat → Int32) : Option ((Int32) × (Nat → Int32)) :=
  pgd (pin x5 48) (
  plt ((s_times x5.toNatClampNeg) : Int32) (fun x4_2 => (
  plt (x5 + (1 : Int32) : Int32) (fun x5_3 => (
  r16 x4_2 x5_3 s_times)))))

set_option maxRecDepth 100000 in
set_option maxHeartbeats 4000000 in
theorem k_X4_soonest_68 {p : Program} {l : Launch} {e : Env} {s : State} {m : MethodId} {args : Array Value} {below : List Frame} {meth : Method} {c : Code} {A : Nat → Prop} {D : va_G} {cA : Nat → ClassId} (C0 : MX p s m args meth c cX4_soonest 6 wsX4_soonest RX4 (some .int) D cA) (hA : ∀ q, s.heap.size ≤ q → A q) {a0 : Nat} {q_times : Nat} {q_depths : Nat} {q_figures : Nat} {s_pace : Int32} {s_fade : Int32} {s_depths : Nat → Int32} {x1 : Int32} {x2 : Int64} {o_r : Int32} {o_times : Nat → Int32} {r16 : (Int32) → (Int32) → (Nat → Int32) → Option ((Int32) × (Nat → Int32))} (hr16 : ∀ (x4 : Int32) (x5 : Int32) (s_times : Nat → Int32), r16 x4 x5 s_times = some (o_r, o_times) → ∀ (H : Heap) (locs : List Loc), va_P D vwCl (w_X4_soonest a0 q_times q_depths q_figures cA s_pace s_fade s_times s_depths) H → va_D A (w_X4_soonest a0 q_times q_depths q_figures cA s_pace s_fade s_times s_depths) → va_S A s.heap H locs → ∀ ls : Array Slot, lv_has ls 6 [(0, .ref a0), (2, .long x2), (4, .int x4), (5, .int x5)] → W p l e rm_X4_soonest s m args below meth c H locs 0 0 (MQ below (CQ D (some (.int o_r)) (w_X4_soonest a0 q_times q_depths q_figures cA s_pace s_fade o_times s_depths) A) args s 0 0 A) (F0 m 16 ls [])) : ∀ (x5 : Int32) (s_times : Nat → Int32), f_X4_soonest_68 r16 s_pace s_depths x1 x2 x5 s_times = some (o_r, o_times) → ∀ (H : Heap) (locs : List Loc), va_P D vwCl (w_X4_soonest a0 q_times q_depths q_figures cA s_pace s_fade s_times s_depths) H → va_D A (w_X4_soonest a0 q_times q_depths q_figures cA s_pace s_fade s_times s_depths) → va_S A s.heap H locs → ∀ ls : Array Slot, lv_has ls 6 [(0, .ref a0), (2, .long x2), (5, .int x5)] → W p l e rm_X4_soonest s m args below meth c H locs 0 0 (MQ below (CQ D (some (.int o_r)) (w_X4_soonest a0 q_times q_depths q_figures cA s_pace s_fade o_times s_depths) A) args s 0 0 A) (F0 m 68 ls []) := by
  obtain ⟨hx, hb, hml, hown, hts, hr, hlocks, hX⟩ := C0
  have hK := hX.1
  have hN := hX.2
  intro x5 s_times hf H locs hP hD hS ls hl
  unfold f_X4_soonest_68 at hf
  refine lv_aload_n hx hb dX4_soonest_68 rfl (lv_at hl 0 rfl) ?_
  refine va_get (D := D) (ci := 4) (v := .ref q_times) (C := RX4) (T := TX4) (N := 5) hx hb hts hn_X4_soonest_X4 hown hK hP 0 rfl rfl 2 (by decide) (hts _ hw_X4_soonest_f18) (fun _ h9 => h9) rfl dX4_soonest_69 ?_
  refine lv_iload hx hb dX4_soonest_72 (lv_at hl 2 rfl) ?_
  obtain ⟨g_1, hf⟩ := pgd_e hf
  refine va_iald hx hb hK hP 1 1 rfl rfl g_1 dX4_soonest_74 ?_
  refine lv_topi (fun x4_2 ex4_2 => ?_)
  have hf := plt_e ex4_2 hf
  refine lv_istore (lv' := [(4, .int x4_2), (0, .ref a0), (2, .long x2), (5, .int x5)]) hx hb dX4_soonest_75 hl (by decide) rfl (fun ls hl => ?_)
  obtain ⟨x5_3, ex5_3⟩ : ∃ z : Int32, z = x5 + (1 : Int32) := ⟨_, rfl⟩
  have hf := plt_e ex5_3 hf
  refine lv_iinc (v := x5_3) (lv' := [(5, .int x5_3), (4, .int x4_2), (0, .ref a0), (2, .long x2)]) hx hb dX4_soonest_77 hl (k := 3) rfl (by rw [ex5_3]; rfl) (by decide) rfl (fun ls hl => ?_)
  refine lv_goto (tgt := 16) hx hb dX4_soonest_80 (by decide) ?_
  exact hr16 x4_2 x5_3 s_times hf _ _ hP hD hS ls (lv_sub hl [2, 3, 1, 0] rfl)

def f_X4_soonest_16 (s_pace : Int32) (s_depths : Nat → Int32) (x1 : Int32) (x2 : Int64) : Nat → (Int32) → (Int32) → (Nat → Int32) → Option ((Int32) × (Nat → Int32))
  | 0, _, _, _ => none
  | k + 1, x4, x5, s_times =>
    pbr ((48 : Int32) ≤ x5)
      (some (x4, s_times))
      (pbr ((lg_cmp ((x2.toUInt64 >>> (x5.toInt64.toUInt64 &&& Int64.toUInt64 63)).toInt64 &&& (1 : Int64)) (0 : Int64)) = 0)
        (plt (x5 + (1 : Int32) : Int32) (fun x5_3 => (
        (f_X4_soonest_16 s_pace s_depths x1 x2 k) x4 x5_3 s_times)))
        (pgd (pin x5 48) (
        pbr ((s_times x5.toNatClampNeg) = (-9 : Int32))
          (plt (x5 + (1 : Int32) : Int32) (fun x5_9 => (
          (f_X4_soonest_16 s_pace s_depths x1 x2 k) x4 x5_9 s_times)))
          (pbr (x4 = (-9 : Int32))
            (f_X4_soonest_68 (f_X4_soonest_16 s_pace s_depths x1 x2 k) s_pace s_depths x1 x2 x5 s_times)
            (pbr (x4 ≤ (s_times x5.toNatClampNeg))
              (plt (x5 + (1 : Int32) : Int32) (fun x5_8 => (
              (f_X4_soonest_16 s_pace s_depths x1 x2 k) x4 x5_8 s_times)))
              (f_X4_soonest_68 (f_X4_soonest_16 s_pace s_depths x1 x2 k) s_pace s_depths x1 x2 x5 s_times))))))

set_option maxRecDepth 100000 in
set_option maxHeartbeats 4000000 in
theorem k_X4_soonest_16 {p : Program} {l : Launch} {e : Env} {s : State} {m : MethodId} {args : Array Value} {below : List Frame} {meth : Method} {c : Code} {A : Nat → Prop} {D : va_G} {cA : Nat → ClassId} (C0 : MX p s m args meth c cX4_soonest 6 wsX4_soonest RX4 (some .int) D cA) (hA : ∀ q, s.heap.size ≤ q → A q) {a0 : Nat} {q_times : Nat} {q_depths : Nat} {q_figures : Nat} {s_pace : Int32} {s_fade : Int32} {s_depths : Nat → Int32} {x1 : Int32} {x2 : Int64} {o_r : Int32} {o_times : Nat → Int32} : ∀ (k : Nat) (x4 : Int32) (x5 : Int32) (s_times : Nat → Int32), f_X4_soonest_16 s_pace s_depths x1 x2 k x4 x5 s_times = some (o_r, o_times) → ∀ (H : Heap) (locs : List Loc), va_P D vwCl (w_X4_soonest a0 q_times q_depths q_figures cA s_pace s_fade s_times s_depths) H → va_D A (w_X4_soonest a0 q_times q_depths q_figures cA s_pace s_fade s_times s_depths) → va_S A s.heap H locs → ∀ ls : Array Slot, lv_has ls 6 [(0, .ref a0), (2, .long x2), (4, .int x4), (5, .int x5)] → W p l e rm_X4_soonest s m args below meth c H locs 0 0 (MQ below (CQ D (some (.int o_r)) (w_X4_soonest a0 q_times q_depths q_figures cA s_pace s_fade o_times s_depths) A) args s 0 0 A) (F0 m 16 ls []) := by
  obtain ⟨hx, hb, hml, hown, hts, hr, hlocks, hX⟩ := C0
  have hK := hX.1
  have hN := hX.2
  intro k
  induction k with
  | zero =>
    intro x4 x5 s_times hf
    cases hf
  | succ k ih =>
    intro x4 x5 s_times hf H locs hP hD hS ls hl
    rw [f_X4_soonest_16] at hf
    refine lv_iload hx hb dX4_soonest_16 (lv_at hl 3 rfl) ?_
    refine lv_bipush (v := (48 : Int32)) hx hb dX4_soonest_18 (by decide) ?_
    refine lv_icmp_ge (tgt := 83) hx hb dX4_soonest_20 (by decide) (fun c_1 => ?_) (fun c_1 => ?_)
    · have hf := pbr_t c_1 hf
      refine lv_iload hx hb dX4_soonest_83 (lv_at hl 2 rfl) ?_
      obtain ⟨rfl, rfl⟩ := pe2 hf
      exact m_iret hx hb hr hlocks hP hS dX4_soonest_85
    have hf := pbr_f c_1 hf
    refine lv_lload_n hx hb dX4_soonest_23 rfl (lv_at hl 1 rfl) ?_
    refine lv_iload hx hb dX4_soonest_24 (lv_at hl 3 rfl) ?_
    refine lv_lushr hx hb dX4_soonest_26 rfl ?_
    refine lv_lconst (v := (1 : Int64)) hx hb dX4_soonest_27 (by decide) ?_
    refine lv_land hx hb dX4_soonest_28 ?_
    refine lv_lconst (v := (0 : Int64)) hx hb dX4_soonest_29 (by decide) ?_
    refine W.lcmp hx hb dX4_soonest_30 ?_
    refine lv_if_eq (tgt := 77) hx hb dX4_soonest_31 (by decide) (fun c_2 => ?_) (fun c_2 => ?_)
    · have hf := pbr_t c_2 hf
      obtain ⟨x5_3, ex5_3⟩ : ∃ z : Int32, z = x5 + (1 : Int32) := ⟨_, rfl⟩
      have hf := plt_e ex5_3 hf
      refine lv_iinc (v := x5_3) (lv' := [(5, .int x5_3), (0, .ref a0), (2, .long x2), (4, .int x4)]) hx hb dX4_soonest_77 hl (k := 3) rfl (by rw [ex5_3]; rfl) (by decide) rfl (fun ls hl => ?_)
      refine lv_goto (tgt := 16) hx hb dX4_soonest_80 (by decide) ?_
      exact ih x4 x5_3 s_times hf _ _ hP hD hS ls (lv_sub hl [1, 2, 3, 0] rfl)
    have hf := pbr_f c_2 hf
    refine lv_aload_n hx hb dX4_soonest_34 rfl (lv_at hl 0 rfl) ?_
    refine va_get (D := D) (ci := 4) (v := .ref q_times) (C := RX4) (T := TX4) (N := 5) hx hb hts hn_X4_soonest_X4 hown hK hP 0 rfl rfl 2 (by decide) (hts _ hw_X4_soonest_f18) (fun _ h9 => h9) rfl dX4_soonest_35 ?_
    refine lv_iload hx hb dX4_soonest_38 (lv_at hl 3 rfl) ?_
    obtain ⟨g_4, hf⟩ := pgd_e hf
    refine va_iald hx hb hK hP 1 1 rfl rfl g_4 dX4_soonest_40 ?_
    refine lv_bipush (v := (-9 : Int32)) hx hb dX4_soonest_41 (by decide) ?_
    refine lv_icmp_ne (tgt := 49) hx hb dX4_soonest_43 (by decide) (fun c_5 => ?_) (fun c_5 => ?_)
    · have hf := pbr_f c_5 hf
      refine lv_iload hx hb dX4_soonest_49 (lv_at hl 2 rfl) ?_
      refine lv_bipush (v := (-9 : Int32)) hx hb dX4_soonest_51 (by decide) ?_
      refine lv_icmp_eq (tgt := 68) hx hb dX4_soonest_53 (by decide) (fun c_6 => ?_) (fun c_6 => ?_)
      · have hf := pbr_t c_6 hf
        exact k_X4_soonest_68 ⟨hx, hb, hml, hown, hts, hr, hlocks, hX⟩ hA ih x5 s_times hf _ _ hP hD hS ls (lv_sub hl [0, 1, 3] rfl)
      have hf := pbr_f c_6 hf
      refine lv_aload_n hx hb dX4_soonest_56 rfl (lv_at hl 0 rfl) ?_
      refine va_get (D := D) (ci := 4) (v := .ref q_times) (C := RX4) (T := TX4) (N := 5) hx hb hts hn_X4_soonest_X4 hown hK hP 0 rfl rfl 2 (by decide) (hts _ hw_X4_soonest_f18) (fun _ h9 => h9) rfl dX4_soonest_57 ?_
      refine lv_iload hx hb dX4_soonest_60 (lv_at hl 3 rfl) ?_
      refine va_iald hx hb hK hP 1 1 rfl rfl g_4 dX4_soonest_62 ?_
      refine lv_iload hx hb dX4_soonest_63 (lv_at hl 2 rfl) ?_
      refine lv_icmp_ge (tgt := 77) hx hb dX4_soonest_65 (by decide) (fun c_7 => ?_) (fun c_7 => ?_)
      · have hf := pbr_t c_7 hf
        obtain ⟨x5_8, ex5_8⟩ : ∃ z : Int32, z = x5 + (1 : Int32) := ⟨_, rfl⟩
        have hf := plt_e ex5_8 hf
        refine lv_iinc (v := x5_8) (lv' := [(5, .int x5_8), (0, .ref a0), (2, .long x2), (4, .int x4)]) hx hb dX4_soonest_77 hl (k := 3) rfl (by rw [ex5_8]; rfl) (by decide) rfl (fun ls hl => ?_)
        refine lv_goto (tgt := 16) hx hb dX4_soonest_80 (by decide) ?_
        exact ih x4 x5_8 s_times hf _ _ hP hD hS ls (lv_sub hl [1, 2, 3, 0] rfl)
      have hf := pbr_f c_7 hf
      exact k_X4_soonest_68 ⟨hx, hb, hml, hown, hts, hr, hlocks, hX⟩ hA ih x5 s_times hf _ _ hP hD hS ls (lv_sub hl [0, 1, 3] rfl)
    have hf := pbr_t c_5 hf
    refine lv_goto (tgt := 77) hx hb dX4_soonest_46 (by decide) ?_
    obtain ⟨x5_9, ex5_9⟩ : ∃ z : Int32, z = x5 + (1 : Int32) := ⟨_, rfl⟩
    have hf := plt_e ex5_9 hf
    refine lv_iinc (v := x5_9) (lv' := [(5, .int x5_9), (0, .ref a0), (2, .long x2), (4, .int x4)]) hx hb dX4_soonest_77 hl (k := 3) rfl (by rw [ex5_9]; rfl) (by decide) rfl (fun ls hl => ?_)
    refine lv_goto (tgt := 16) hx hb dX4_soonest_80 (by decide) ?_
    exact ih x4 x5_9 s_times hf _ _ hP hD hS ls (lv_sub hl [1, 2, 3, 0] rfl)

def f_X4_soonest (x1 : Int32) (x2 : Int64) (s_pace : Int32) (s_times : Nat → Int32) (s_depths : Nat → Int32) : Option ((Int32) × (Nat → Int32)) :=
  pcl (f_X4_measureTo x1 s_pace s_times s_depths) (fun b2_1 => (
  f_X4_soonest_16 s_pace s_depths x1 x2 FU (-9 : Int32) (0 : Int32) b2_1))

set_option maxRecDepth 100000 in
set_option maxHeartbeats 4000000 in
theorem ct_X4_soonest (l : Launch) (D : va_G) (cA : Nat → ClassId) (x1 : Int32) (x2 : Int64) (a0 : Nat) (q_times : Nat) (q_depths : Nat) (q_figures : Nat) (s_pace : Int32) (s_fade : Int32) (s_times : Nat → Int32) (s_depths : Nat → Int32) (o_r : Int32) (o_times : Nat → Int32) (hf : f_X4_soonest x1 x2 s_pace s_times s_depths = some (o_r, o_times)) : CT l yX4_soonest wsX4_soonest rm_X4_soonest D cA [.ref a0, .int x1, .long x2] (w_X4_soonest a0 q_times q_depths q_figures cA s_pace s_fade s_times s_depths) (w_X4_soonest a0 q_times q_depths q_figures cA s_pace s_fade o_times s_depths) (some (.int o_r)) := by
  refine CT.ofW (cc := cX4_soonest) (maxL := 6) (ret := (some .int)) (by decide +kernel) rfl (Nat.le_of_ble_eq_true rfl) ?_
  intro p e s m below meth c A C0 hA hP hD ls hl
  have C0 : MX p s m [.ref a0, .int x1, .long x2].toArray meth c cX4_soonest 6 wsX4_soonest RX4 (some .int) D cA := C0
  have hl : lv_has ls 6 [(0, .ref a0), (1, .int x1), (2, .long x2)] := hl
  obtain ⟨hx, hb, hml, hown, hts, hr, hlocks, hX⟩ := id C0
  have hK := hX.1
  have hN := hX.2
  have hS : va_S A s.heap s.heap [] := va_S.rf
  unfold f_X4_soonest at hf
  refine lv_aload_n hx hb dX4_soonest_0 rfl (lv_at hl 0 rfl) ?_
  refine lv_iload_n hx hb dX4_soonest_1 rfl (lv_at hl 1 rfl) ?_
  refine lv_aload_n hx hb dX4_soonest_2 rfl (lv_at hl 0 rfl) ?_
  refine va_get (D := D) (ci := 4) (v := .ref q_times) (C := RX4) (T := TX4) (N := 5) hx hb hts hn_X4_soonest_X4 hown hK hP 0 rfl rfl 2 (by decide) (hts _ hw_X4_soonest_f18) (fun _ h9 => h9) rfl dX4_soonest_3 ?_
  obtain ⟨b2_1, hc_2, hf⟩ := pcl_e hf
  refine m_callV2 (As := [.int x1, .ref q_times]) (rest := []) ⟨hx, hb, hml, hown, hts⟩ hX (ct_X4_measureTo l D cA x1 a0 q_times q_depths q_figures q_times s_pace s_fade s_times s_depths b2_1 hc_2) (cwV 2 hts gX4_soonest_X4_measureTo rfl rfl rfl (by decide +kernel) ⟨Nat.le_of_ble_eq_true rfl, Nat.le_of_ble_eq_true rfl⟩) hP hD hS hA [0, 1, 2] [] 3 (by decide) rfl rfl (WS' := (w_X4_soonest a0 q_times q_depths q_figures cA s_pace s_fade b2_1 s_depths)) (WR := []) rfl rfl rfl rfl (by decide) (by decide) 0 4 rfl rfl rfl hl.1 rfl (st' := []) rfl (Nat.le_of_ble_eq_true rfl) ⟨Nat.zero_le _, Nat.zero_le _⟩ dX4_soonest_6 (fun H locs hP hD hS => ?_)
  refine lv_bipush (v := (-9 : Int32)) hx hb dX4_soonest_9 (by decide) ?_
  refine lv_istore (lv' := [(4, .int (-9 : Int32)), (0, .ref a0), (1, .int x1), (2, .long x2)]) hx hb dX4_soonest_11 hl (by decide) rfl (fun ls hl => ?_)
  refine lv_iconst (v := (0 : Int32)) hx hb dX4_soonest_13 (by decide) ?_
  refine lv_istore (lv' := [(5, .int (0 : Int32)), (4, .int (-9 : Int32)), (0, .ref a0), (1, .int x1), (2, .long x2)]) hx hb dX4_soonest_14 hl (by decide) rfl (fun ls hl => ?_)
  exact k_X4_soonest_16 C0 hA FU (-9 : Int32) (0 : Int32) b2_1 hf _ _ hP hD hS ls (lv_sub hl [2, 4, 1, 0] rfl)

/-! ===== OrphanWave$Ocean.swell(III)I ===== -/
abbrev rm_X4_swell : Room := { frames := 0, cells := 0, slots := 0, locals := 0 }
abbrev w_X4_swell (a0 : Nat) (q_depths : Nat) (q_figures : Nat) (q_times : Nat) (cA : Nat → ClassId) (s_pace : Int32) (s_fade : Int32) (s_depths : Nat → Int32) : va_W := [(a0, .inr (4, [.ref q_depths, .ref q_figures, .ref q_times, .int s_pace, .int s_fade])), (q_depths, .inl (cA 1, 48, .inl s_depths))]
theorem hn_X4_swell_X4 : ∀ w ∈ u_ws RX4 TX4 5, w ∈ wsX4_swell := by decide +kernel
theorem hw_X4_swell_f25 : Cond.fieldLink RX4 25 "OrphanWave$Ocean" "fade" "I" ∈ wsX4_swell := by decide +kernel
theorem hw_X4_swell_f9 : Cond.fieldLink RX4 9 "OrphanWave$Ocean" "depths" "[I" ∈ wsX4_swell := by decide +kernel

def f_X4_swell (x1 : Int32) (x2 : Int32) (x3 : Int32) (s_fade : Int32) (s_depths : Nat → Int32) : Option ((Int32)) :=
  plt ((s_fade + x1) : Int32) (fun x4_1 => (
  pbr (x1 < 0)
    (some ((-9 : Int32)))
    (pbr (0 < x4_1)
      (pgd (¬ x4_1 = 0) (
      plt (((x2 * s_fade) / x4_1) : Int32) (fun x5_5 => (
      pgd (pin x3 48) (
      pbr ((2 : Int32) < (s_depths x3.toNatClampNeg))
        (some (x5_5))
        (some (((2 : Int32) * x5_5))))))))
      (some ((-9 : Int32))))))

set_option maxRecDepth 100000 in
set_option maxHeartbeats 4000000 in
theorem ct_X4_swell (l : Launch) (D : va_G) (cA : Nat → ClassId) (x1 : Int32) (x2 : Int32) (x3 : Int32) (a0 : Nat) (q_depths : Nat) (q_figures : Nat) (q_times : Nat) (s_pace : Int32) (s_fade : Int32) (s_depths : Nat → Int32) (o_r : Int32) (hf : f_X4_swell x1 x2 x3 s_fade s_depths = some o_r) : CT l yX4_swell wsX4_swell rm_X4_swell D cA [.ref a0, .int x1, .int x2, .int x3] (w_X4_swell a0 q_depths q_figures q_times cA s_pace s_fade s_depths) (w_X4_swell a0 q_depths q_figures q_times cA s_pace s_fade s_depths) (some (.int o_r)) := by
  refine CT.ofW (cc := cX4_swell) (maxL := 6) (ret := (some .int)) (by decide +kernel) rfl (Nat.le_of_ble_eq_true rfl) ?_
  intro p e s m below meth c A C0 hA hP hD ls hl
  have C0 : MX p s m [.ref a0, .int x1, .int x2, .int x3].toArray meth c cX4_swell 6 wsX4_swell RX4 (some .int) D cA := C0
  have hl : lv_has ls 6 [(0, .ref a0), (1, .int x1), (2, .int x2), (3, .int x3)] := hl
  obtain ⟨hx, hb, hml, hown, hts, hr, hlocks, hX⟩ := id C0
  have hK := hX.1
  have hN := hX.2
  have hS : va_S A s.heap s.heap [] := va_S.rf
  unfold f_X4_swell at hf
  refine lv_aload_n hx hb dX4_swell_0 rfl (lv_at hl 0 rfl) ?_
  refine va_get (D := D) (ci := 4) (v := .int s_fade) (C := RX4) (T := TX4) (N := 5) hx hb hts hn_X4_swell_X4 hown hK hP 0 rfl rfl 4 (by decide) (hts _ hw_X4_swell_f25) (fun _ h9 => h9) rfl dX4_swell_1 ?_
  refine lv_iload_n hx hb dX4_swell_4 rfl (lv_at hl 1 rfl) ?_
  refine lv_iadd hx hb dX4_swell_5 ?_
  refine lv_topi (fun x4_1 ex4_1 => ?_)
  have hf := plt_e ex4_1 hf
  refine lv_istore (lv' := [(4, .int x4_1), (0, .ref a0), (1, .int x1), (2, .int x2), (3, .int x3)]) hx hb dX4_swell_6 hl (by decide) rfl (fun ls hl => ?_)
  refine lv_iload_n hx hb dX4_swell_8 rfl (lv_at hl 2 rfl) ?_
  refine lv_if_lt (tgt := 17) hx hb dX4_swell_9 (by decide) (fun c_2 => ?_) (fun c_2 => ?_)
  · have hf := pbr_t c_2 hf
    refine lv_bipush (v := (-9 : Int32)) hx hb dX4_swell_17 (by decide) ?_
    obtain rfl := pe1 hf
    exact m_iret hx hb hr hlocks hP hS dX4_swell_19
  have hf := pbr_f c_2 hf
  refine lv_iload hx hb dX4_swell_12 (lv_at hl 0 rfl) ?_
  refine lv_if_gt (tgt := 20) hx hb dX4_swell_14 (by decide) (fun c_3 => ?_) (fun c_3 => ?_)
  · have hf := pbr_t c_3 hf
    refine lv_iload_n hx hb dX4_swell_20 rfl (lv_at hl 3 rfl) ?_
    refine lv_aload_n hx hb dX4_swell_21 rfl (lv_at hl 1 rfl) ?_
    refine va_get (D := D) (ci := 4) (v := .int s_fade) (C := RX4) (T := TX4) (N := 5) hx hb hts hn_X4_swell_X4 hown hK hP 0 rfl rfl 4 (by decide) (hts _ hw_X4_swell_f25) (fun _ h9 => h9) rfl dX4_swell_22 ?_
    refine lv_imul hx hb dX4_swell_25 ?_
    refine lv_iload hx hb dX4_swell_26 (lv_at hl 0 rfl) ?_
    obtain ⟨g_4, hf⟩ := pgd_e hf
    refine lv_idiv hx hb dX4_swell_28 g_4 ?_
    refine lv_topi (fun x5_5 ex5_5 => ?_)
    have hf := plt_e ex5_5 hf
    refine lv_istore (lv' := [(5, .int x5_5), (4, .int x4_1), (0, .ref a0), (1, .int x1), (2, .int x2), (3, .int x3)]) hx hb dX4_swell_29 hl (by decide) rfl (fun ls hl => ?_)
    refine lv_aload_n hx hb dX4_swell_31 rfl (lv_at hl 2 rfl) ?_
    refine va_get (D := D) (ci := 4) (v := .ref q_depths) (C := RX4) (T := TX4) (N := 5) hx hb hts hn_X4_swell_X4 hown hK hP 0 rfl rfl 0 (by decide) (hts _ hw_X4_swell_f9) (fun _ h9 => h9) rfl dX4_swell_32 ?_
    refine lv_iload_n hx hb dX4_swell_35 rfl (lv_at hl 5 rfl) ?_
    obtain ⟨g_6, hf⟩ := pgd_e hf
    refine va_iald hx hb hK hP 1 1 rfl rfl g_6 dX4_swell_36 ?_
    refine lv_iconst (v := (2 : Int32)) hx hb dX4_swell_37 (by decide) ?_
    refine lv_icmp_gt (tgt := 48) hx hb dX4_swell_38 (by decide) (fun c_7 => ?_) (fun c_7 => ?_)
    · have hf := pbr_t c_7 hf
      refine lv_iload hx hb dX4_swell_48 (lv_at hl 0 rfl) ?_
      obtain rfl := pe1 hf
      exact m_iret hx hb hr hlocks hP hS dX4_swell_50
    have hf := pbr_f c_7 hf
    refine lv_iconst (v := (2 : Int32)) hx hb dX4_swell_41 (by decide) ?_
    refine lv_iload hx hb dX4_swell_42 (lv_at hl 0 rfl) ?_
    refine lv_imul hx hb dX4_swell_44 ?_
    refine lv_goto (tgt := 50) hx hb dX4_swell_45 (by decide) ?_
    obtain rfl := pe1 hf
    exact m_iret hx hb hr hlocks hP hS dX4_swell_50
  have hf := pbr_f c_3 hf
  refine lv_bipush (v := (-9 : Int32)) hx hb dX4_swell_17 (by decide) ?_
  obtain rfl := pe1 hf
  exact m_iret hx hb hr hlocks hP hS dX4_swell_19
