/-! ===== OrphanWave$Ocean.isSea(I)Z ===== -/
abbrev rm_X4_isSea : Room := { frames := 2, cells := 0, slots := 0, locals := 42 }
abbrev w_X4_isSea (a0 : Nat) (q_depths : Nat) (q_figures : Nat) (q_times : Nat) (cA : Nat → ClassId) (s_pace : Int32) (s_fade : Int32) (s_depths : Nat → Int32) : va_W := [(a0, .inr (4, [.ref q_depths, .ref q_figures, .ref q_times, .int s_pace, .int s_fade])), (q_depths, .inl (cA 1, 48, .inl s_depths))]
theorem hn_X4_isSea_X4 : ∀ w ∈ u_ws RX4 TX4 5, w ∈ wsX4_isSea := by decide +kernel
theorem hw_X4_isSea_f9 : Cond.fieldLink RX4 9 "OrphanWave$Ocean" "depths" "[I" ∈ wsX4_isSea := by decide +kernel
theorem hw_X4_isSea_iX11 : Cond.initialized RX11 ∈ wsX4_isSea := by decide +kernel
theorem hw_X4_isSea_sX11_isCell : Cond.static yX11_isCell ∈ wsX4_isSea := by decide +kernel

def f_X4_isSea (x1 : Int32) (s_depths : Nat → Int32) : Option ((Int32)) :=
  pcl (f_X11_isCell x1) (fun r_1 => (
  pbr (r_1 = 0)
    (some ((0 : Int32)))
    (pgd (pin x1 48) (
    pbr ((s_depths x1.toNatClampNeg) ≤ 0)
      (some ((0 : Int32)))
      (some ((1 : Int32)))))))

set_option maxRecDepth 100000 in
set_option maxHeartbeats 4000000 in
theorem ct_X4_isSea (l : Launch) (D : va_G) (cA : Nat → ClassId) (x1 : Int32) (a0 : Nat) (q_depths : Nat) (q_figures : Nat) (q_times : Nat) (s_pace : Int32) (s_fade : Int32) (s_depths : Nat → Int32) (o_r : Int32) (hf : f_X4_isSea x1 s_depths = some o_r) : CT l yX4_isSea wsX4_isSea rm_X4_isSea D cA [.ref a0, .int x1] (w_X4_isSea a0 q_depths q_figures q_times cA s_pace s_fade s_depths) (w_X4_isSea a0 q_depths q_figures q_times cA s_pace s_fade s_depths) (some (.int o_r)) := by
  refine CT.ofW (cc := cX4_isSea) (maxL := 2) (ret := (some .boolean)) (by decide +kernel) rfl (Nat.le_of_ble_eq_true rfl) ?_
  intro p e s m below meth c A C0 hA hP hD ls hl
  have C0 : MX p s m [.ref a0, .int x1].toArray meth c cX4_isSea 2 wsX4_isSea RX4 (some .boolean) D cA := C0
  have hl : lv_has ls 2 [(0, .ref a0), (1, .int x1)] := hl
  obtain ⟨hx, hb, hml, hown, hts, hr, hlocks, hX⟩ := id C0
  have hK := hX.1
  have hN := hX.2
  have hS : va_S A s.heap s.heap [] := va_S.rf
  unfold f_X4_isSea at hf
  refine lv_iload_n hx hb dX4_isSea_0 rfl (lv_at hl 1 rfl) ?_
  obtain ⟨r_1, hc_2, hf⟩ := pcl_e hf
  refine m_callSN2 (As := [.int x1]) (rest := []) ⟨hx, hb, hml, hown, hts⟩ hX (ct_X11_isCell l D cA x1 r_1 hc_2) ⟨va_cnB 1 hts ggX4_isSea_X11_isCell rfl rfl rfl (hN _ nw_X4_28) (hts _ hw_X4_isSea_iX11) (by decide +kernel) ⟨Nat.le_of_ble_eq_true rfl, Nat.le_of_ble_eq_true rfl⟩, hts _ hw_X4_isSea_sX11_isCell, trivial⟩ hP hD hS hA [] [0, 1] 2 (by decide) rfl rfl (WS' := (w_X4_isSea a0 q_depths q_figures q_times cA s_pace s_fade s_depths)) (WR := [(a0, .inr (4, [.ref q_depths, .ref q_figures, .ref q_times, .int s_pace, .int s_fade])), (q_depths, .inl (cA 1, 48, .inl s_depths))]) rfl rfl rfl rfl (by decide) (by decide) rfl hl.1 rfl (st' := [.int r_1]) rfl (Nat.le_of_ble_eq_true rfl) ⟨Nat.zero_le _, Nat.zero_le _⟩ dX4_isSea_1 (fun H locs hP hD hS => ?_)
  refine lv_if_eq (tgt := 20) hx hb dX4_isSea_4 (by decide) (fun c_3 => ?_) (fun c_3 => ?_)
  · have hf := pbr_t c_3 hf
    refine lv_iconst (v := (0 : Int32)) hx hb dX4_isSea_20 (by decide) ?_
    obtain rfl := pe1 hf
    exact m_zret (by decide) hx hb hr hlocks hP hS dX4_isSea_21
  have hf := pbr_f c_3 hf
  refine lv_aload_n hx hb dX4_isSea_7 rfl (lv_at hl 0 rfl) ?_
  refine va_get (D := D) (ci := 4) (v := .ref q_depths) (C := RX4) (T := TX4) (N := 5) hx hb hts hn_X4_isSea_X4 hown hK hP 0 rfl rfl 0 (by decide) (hts _ hw_X4_isSea_f9) (fun _ h9 => h9) rfl dX4_isSea_8 ?_
  refine lv_iload_n hx hb dX4_isSea_11 rfl (lv_at hl 1 rfl) ?_
  obtain ⟨g_4, hf⟩ := pgd_e hf
  refine va_iald hx hb hK hP 1 1 rfl rfl g_4 dX4_isSea_12 ?_
  refine lv_if_le (tgt := 20) hx hb dX4_isSea_13 (by decide) (fun c_5 => ?_) (fun c_5 => ?_)
  · have hf := pbr_t c_5 hf
    refine lv_iconst (v := (0 : Int32)) hx hb dX4_isSea_20 (by decide) ?_
    obtain rfl := pe1 hf
    exact m_zret (by decide) hx hb hr hlocks hP hS dX4_isSea_21
  have hf := pbr_f c_5 hf
  refine lv_iconst (v := (1 : Int32)) hx hb dX4_isSea_16 (by decide) ?_
  refine lv_goto (tgt := 21) hx hb dX4_isSea_17 (by decide) ?_
  obtain rfl := pe1 hf
  exact m_zret (by decide) hx hb hr hlocks hP hS dX4_isSea_21

/-! ===== OrphanWave$Ocean.seaCells()I ===== -/
abbrev rm_X4_seaCells : Room := { frames := 0, cells := 0, slots := 0, locals := 0 }
abbrev w_X4_seaCells (a0 : Nat) (q_depths : Nat) (q_figures : Nat) (q_times : Nat) (cA : Nat → ClassId) (s_pace : Int32) (s_fade : Int32) (s_depths : Nat → Int32) : va_W := [(a0, .inr (4, [.ref q_depths, .ref q_figures, .ref q_times, .int s_pace, .int s_fade])), (q_depths, .inl (cA 1, 48, .inl s_depths))]
theorem hn_X4_seaCells_X4 : ∀ w ∈ u_ws RX4 TX4 5, w ∈ wsX4_seaCells := by decide +kernel
theorem hw_X4_seaCells_f9 : Cond.fieldLink RX4 9 "OrphanWave$Ocean" "depths" "[I" ∈ wsX4_seaCells := by decide +kernel

def f_X4_seaCells_4 (s_depths : Nat → Int32) : Nat → (Int32) → (Int32) → Option ((Int32))
  | 0, _, _ => none
  | k + 1, x1, x2 =>
    pbr ((48 : Int32) ≤ x2)
      (some (x1))
      (pgd (pin x2 48) (
      pbr ((s_depths x2.toNatClampNeg) ≤ 0)
        (plt (x2 + (1 : Int32) : Int32) (fun x2_4 => (
        (f_X4_seaCells_4 s_depths k) x1 x2_4)))
        (plt (x1 + (1 : Int32) : Int32) (fun x1_5 => (
        plt (x2 + (1 : Int32) : Int32) (fun x2_6 => (
        (f_X4_seaCells_4 s_depths k) x1_5 x2_6)))))))

set_option maxRecDepth 100000 in
set_option maxHeartbeats 4000000 in
theorem k_X4_seaCells_4 {p : Program} {l : Launch} {e : Env} {s : State} {m : MethodId} {args : Array Value} {below : List Frame} {meth : Method} {c : Code} {A : Nat → Prop} {D : va_G} {cA : Nat → ClassId} (C0 : MX p s m args meth c cX4_seaCells 3 wsX4_seaCells RX4 (some .int) D cA) (hA : ∀ q, s.heap.size ≤ q → A q) {a0 : Nat} {q_depths : Nat} {q_figures : Nat} {q_times : Nat} {s_pace : Int32} {s_fade : Int32} {s_depths : Nat → Int32} {o_r : Int32} : ∀ (k : Nat) (x1 : Int32) (x2 : Int32), f_X4_seaCells_4 s_depths k x1 x2 = some o_r → ∀ (H : Heap) (locs : List Loc), va_P D vwCl (w_X4_seaCells a0 q_depths q_figures q_times cA s_pace s_fade s_depths) H → va_D A (w_X4_seaCells a0 q_depths q_figures q_times cA s_pace s_fade s_depths) → va_S A s.heap H locs → ∀ ls : Array Slot, lv_has ls 3 [(0, .ref a0), (1, .int x1), (2, .int x2)] → W p l e rm_X4_seaCells s m args below meth c H locs 0 0 (MQ below (CQ D (some (.int o_r)) (w_X4_seaCells a0 q_depths q_figures q_times cA s_pace s_fade s_depths) A) args s 0 0 A) (F0 m 4 ls []) := by
  obtain ⟨hx, hb, hml, hown, hts, hr, hlocks, hX⟩ := C0
  have hK := hX.1
  have hN := hX.2
  intro k
  induction k with
  | zero =>
    intro x1 x2 hf
    cases hf
  | succ k ih =>
    intro x1 x2 hf H locs hP hD hS ls hl
    rw [f_X4_seaCells_4] at hf
    refine lv_iload_n hx hb dX4_seaCells_4 rfl (lv_at hl 2 rfl) ?_
    refine lv_bipush (v := (48 : Int32)) hx hb dX4_seaCells_5 (by decide) ?_
    refine lv_icmp_ge (tgt := 28) hx hb dX4_seaCells_7 (by decide) (fun c_1 => ?_) (fun c_1 => ?_)
    · have hf := pbr_t c_1 hf
      refine lv_iload_n hx hb dX4_seaCells_28 rfl (lv_at hl 1 rfl) ?_
      obtain rfl := pe1 hf
      exact m_iret hx hb hr hlocks hP hS dX4_seaCells_29
    have hf := pbr_f c_1 hf
    refine lv_aload_n hx hb dX4_seaCells_10 rfl (lv_at hl 0 rfl) ?_
    refine va_get (D := D) (ci := 4) (v := .ref q_depths) (C := RX4) (T := TX4) (N := 5) hx hb hts hn_X4_seaCells_X4 hown hK hP 0 rfl rfl 0 (by decide) (hts _ hw_X4_seaCells_f9) (fun _ h9 => h9) rfl dX4_seaCells_11 ?_
    refine lv_iload_n hx hb dX4_seaCells_14 rfl (lv_at hl 2 rfl) ?_
    obtain ⟨g_2, hf⟩ := pgd_e hf
    refine va_iald hx hb hK hP 1 1 rfl rfl g_2 dX4_seaCells_15 ?_
    refine lv_if_le (tgt := 22) hx hb dX4_seaCells_16 (by decide) (fun c_3 => ?_) (fun c_3 => ?_)
    · have hf := pbr_t c_3 hf
      obtain ⟨x2_4, ex2_4⟩ : ∃ z : Int32, z = x2 + (1 : Int32) := ⟨_, rfl⟩
      have hf := plt_e ex2_4 hf
      refine lv_iinc (v := x2_4) (lv' := [(2, .int x2_4), (0, .ref a0), (1, .int x1)]) hx hb dX4_seaCells_22 hl (k := 2) rfl (by rw [ex2_4]; rfl) (by decide) rfl (fun ls hl => ?_)
      refine lv_goto (tgt := 4) hx hb dX4_seaCells_25 (by decide) ?_
      exact ih x1 x2_4 hf _ _ hP hD hS ls (lv_sub hl [1, 2, 0] rfl)
    have hf := pbr_f c_3 hf
    obtain ⟨x1_5, ex1_5⟩ : ∃ z : Int32, z = x1 + (1 : Int32) := ⟨_, rfl⟩
    have hf := plt_e ex1_5 hf
    refine lv_iinc (v := x1_5) (lv' := [(1, .int x1_5), (0, .ref a0), (2, .int x2)]) hx hb dX4_seaCells_19 hl (k := 1) rfl (by rw [ex1_5]; rfl) (by decide) rfl (fun ls hl => ?_)
    obtain ⟨x2_6, ex2_6⟩ : ∃ z : Int32, z = x2 + (1 : Int32) := ⟨_, rfl⟩
    have hf := plt_e ex2_6 hf
    refine lv_iinc (v := x2_6) (lv' := [(2, .int x2_6), (1, .int x1_5), (0, .ref a0)]) hx hb dX4_seaCells_22 hl (k := 2) rfl (by rw [ex2_6]; rfl) (by decide) rfl (fun ls hl => ?_)
    refine lv_goto (tgt := 4) hx hb dX4_seaCells_25 (by decide) ?_
    exact ih x1_5 x2_6 hf _ _ hP hD hS ls (lv_sub hl [2, 1, 0] rfl)

def f_X4_seaCells (s_depths : Nat → Int32) : Option ((Int32)) :=
  f_X4_seaCells_4 s_depths FU (0 : Int32) (0 : Int32)

set_option maxRecDepth 100000 in
set_option maxHeartbeats 4000000 in
theorem ct_X4_seaCells (l : Launch) (D : va_G) (cA : Nat → ClassId) (a0 : Nat) (q_depths : Nat) (q_figures : Nat) (q_times : Nat) (s_pace : Int32) (s_fade : Int32) (s_depths : Nat → Int32) (o_r : Int32) (hf : f_X4_seaCells s_depths = some o_r) : CT l yX4_seaCells wsX4_seaCells rm_X4_seaCells D cA [.ref a0] (w_X4_seaCells a0 q_depths q_figures q_times cA s_pace s_fade s_depths) (w_X4_seaCells a0 q_depths q_figures q_times cA s_pace s_fade s_depths) (some (.int o_r)) := by
  refine CT.ofW (cc := cX4_seaCells) (maxL := 3) (ret := (some .int)) (by decide +kernel) rfl (Nat.le_of_ble_eq_true rfl) ?_
  intro p e s m below meth c A C0 hA hP hD ls hl
  have C0 : MX p s m [.ref a0].toArray meth c cX4_seaCells 3 wsX4_seaCells RX4 (some .int) D cA := C0
  have hl : lv_has ls 3 [(0, .ref a0)] := hl
  obtain ⟨hx, hb, hml, hown, hts, hr, hlocks, hX⟩ := id C0
  have hK := hX.1
  have hN := hX.2
  have hS : va_S A s.heap s.heap [] := va_S.rf
  unfold f_X4_seaCells at hf
  refine lv_iconst (v := (0 : Int32)) hx hb dX4_seaCells_0 (by decide) ?_
  refine lv_istore_n (lv' := [(1, .int (0 : Int32)), (0, .ref a0)]) hx hb dX4_seaCells_1 rfl hl (by decide) rfl (fun ls hl => ?_)
  refine lv_iconst (v := (0 : Int32)) hx hb dX4_seaCells_2 (by decide) ?_
  refine lv_istore_n (lv' := [(2, .int (0 : Int32)), (1, .int (0 : Int32)), (0, .ref a0)]) hx hb dX4_seaCells_3 rfl hl (by decide) rfl (fun ls hl => ?_)
  exact k_X4_seaCells_4 C0 hA FU (0 : Int32) (0 : Int32) hf _ _ hP hD hS ls (lv_sub hl [2, 1, 0] rfl)

/-! ===== OrphanWave$Ocean.read(LOrphanWave$Text;)I ===== -/
abbrev rm_X4_read : Room := { frames := 2, cells := 0, slots := 0, locals := 43 }
abbrev w_X4_read (a0 : Nat) (b1 : Nat) (b1_bytes : Nat) (q_figures : Nat) (q_depths : Nat) (q_times : Nat) (cA : Nat → ClassId) (s_pace : Int32) (s_fade : Int32) (s_b1_length : Int32) (s_b1_bytes : Nat → Int32) (s_figures : Nat → Int32) : va_W := [(a0, .inr (4, [.ref q_depths, .ref q_figures, .ref q_times, .int s_pace, .int s_fade])), (b1, .inr (9, [.ref b1_bytes, .int s_b1_length])), (b1_bytes, .inl (cA 0, 400, .inl s_b1_bytes)), (q_figures, .inl (cA 1, 48, .inl s_figures))]
theorem hn_X4_read_X9 : ∀ w ∈ u_ws RX9 TX9 2, w ∈ wsX4_read := by decide +kernel
theorem hn_X4_read_X4 : ∀ w ∈ u_ws RX4 TX4 5, w ∈ wsX4_read := by decide +kernel
theorem hw_X4_read_f15 : Cond.fieldLink RX4 15 "OrphanWave$Ocean" "figures" "[I" ∈ wsX4_read := by decide +kernel

def f_X4_read_4 (s_b1_length : Int32) (s_b1_bytes : Nat → Int32) : Nat → (Int32) → (Int32) → (Nat → Int32) → Option ((Int32) × (Nat → Int32))
  | 0, _, _, _ => none
  | k + 1, x2, x3, s_figures =>
    pbr (s_b1_length ≤ x3)
      (pbr ((54 : Int32) ≤ x2)
        (some ((-1 : Int32), s_figures))
        (some (s_b1_length, s_figures)))
      (pcl (f_X9_byteAt x3 s_b1_length s_b1_bytes) (fun r_3 => (
      pbr (r_3 = (32 : Int32))
        (plt (x3 + (1 : Int32) : Int32) (fun x3_23 => (
        (f_X4_read_4 s_b1_length s_b1_bytes k) x2 x3_23 s_figures)))
        (pbr (x2 < (54 : Int32))
          (plt ((x2 - x2 / (9 : Int32) * (9 : Int32)) : Int32) (fun x4_7 => (
          pbr (x4_7 = (8 : Int32))
            (pcl (f_X9_byteAt x3 s_b1_length s_b1_bytes) (fun r_18 => (
            pbr (r_18 = (59 : Int32))
              (plt (x2 + (1 : Int32) : Int32) (fun x2_21 => (
              plt (x3 + (1 : Int32) : Int32) (fun x3_22 => (
              (f_X4_read_4 s_b1_length s_b1_bytes k) x2_21 x3_22 s_figures)))))
              (some (x3, s_figures)))))
            (pcl (f_X9_isFigure x3 s_b1_length s_b1_bytes) (fun r_9 => (
            pbr (r_9 = 0)
              (some (x3, s_figures))
              (pcl (f_X9_byteAt x3 s_b1_length s_b1_bytes) (fun r_12 => (
              pgd (pin (((x2 / (9 : Int32)) * (8 : Int32)) + x4_7) 48) (
              plt (upd s_figures (((x2 / (9 : Int32)) * (8 : Int32)) + x4_7).toNatClampNeg (r_12 - (48 : Int32)) : Nat → Int32) (fun f_15 => (
              plt (x2 + (1 : Int32) : Int32) (fun x2_16 => (
              plt (x3 + (1 : Int32) : Int32) (fun x3_17 => (
              (f_X4_read_4 s_b1_length s_b1_bytes k) x2_16 x3_17 f_15))))))))))))))))
          (some (x3, s_figures))))))

set_option maxRecDepth 100000 in
set_option maxHeartbeats 4000000 in
theorem k_X4_read_4 {p : Program} {l : Launch} {e : Env} {s : State} {m : MethodId} {args : Array Value} {below : List Frame} {meth : Method} {c : Code} {A : Nat → Prop} {D : va_G} {cA : Nat → ClassId} (C0 : MX p s m args meth c cX4_read 5 wsX4_read RX4 (some .int) D cA) (hA : ∀ q, s.heap.size ≤ q → A q) {a0 : Nat} {b1 : Nat} {b1_bytes : Nat} {q_figures : Nat} {q_depths : Nat} {q_times : Nat} {s_pace : Int32} {s_fade : Int32} {s_b1_length : Int32} {s_b1_bytes : Nat → Int32} {o_r : Int32} {o_figures : Nat → Int32} : ∀ (k : Nat) (x2 : Int32) (x3 : Int32) (s_figures : Nat → Int32), f_X4_read_4 s_b1_length s_b1_bytes k x2 x3 s_figures = some (o_r, o_figures) → ∀ (H : Heap) (locs : List Loc), va_P D vwCl (w_X4_read a0 b1 b1_bytes q_figures q_depths q_times cA s_pace s_fade s_b1_length s_b1_bytes s_figures) H → va_D A (w_X4_read a0 b1 b1_bytes q_figures q_depths q_times cA s_pace s_fade s_b1_length s_b1_bytes s_figures) → va_S A s.heap H locs → ∀ ls : Array Slot, lv_has ls 5 [(0, .ref a0), (1, .ref b1), (2, .int x2), (3, .int x3)] → W p l e rm_X4_read s m args below meth c H locs 0 0 (MQ below (CQ D (some (.int o_r)) (w_X4_read a0 b1 b1_bytes q_figures q_depths q_times cA s_pace s_fade s_b1_length s_b1_bytes o_figures) A) args s 0 0 A) (F0 m 4 ls []) := by
  obtain ⟨hx, hb, hml, hown, hts, hr, hlocks, hX⟩ := C0
  have hK := hX.1
  have hN := hX.2
  intro k
  induction k with
  | zero =>
    intro x2 x3 s_figures hf
    cases hf
  | succ k ih =>
    intro x2 x3 s_figures hf H locs hP hD hS ls hl
    rw [f_X4_read_4] at hf
    refine lv_iload_n hx hb dX4_read_4 rfl (lv_at hl 3 rfl) ?_
    refine lv_aload_n hx hb dX4_read_5 rfl (lv_at hl 1 rfl) ?_
    refine va_getN (D := D) (ci := 9) (v := .int s_b1_length) (C := RX9) (T := TX9) (N := 2) hx hb hts hn_X4_read_X9 hown hK hP 1 rfl rfl 1 (by decide) (va_Nw.use rfl (hN _ nw_X4_42)) (fun _ h9 => h9) rfl dX4_read_6 ?_
    refine lv_icmp_ge (tgt := 100) hx hb dX4_read_9 (by decide) (fun c_1 => ?_) (fun c_1 => ?_)
    · have hf := pbr_t c_1 hf
      refine lv_iload_n hx hb dX4_read_100 rfl (lv_at hl 2 rfl) ?_
      refine lv_bipush (v := (54 : Int32)) hx hb dX4_read_101 (by decide) ?_
      refine lv_icmp_ge (tgt := 113) hx hb dX4_read_103 (by decide) (fun c_2 => ?_) (fun c_2 => ?_)
      · have hf := pbr_t c_2 hf
        refine lv_iconst (v := (-1 : Int32)) hx hb dX4_read_113 (by decide) ?_
        obtain ⟨rfl, rfl⟩ := pe2 hf
        exact m_iret hx hb hr hlocks hP hS dX4_read_114
      have hf := pbr_f c_2 hf
      refine lv_aload_n hx hb dX4_read_106 rfl (lv_at hl 1 rfl) ?_
      refine va_getN (D := D) (ci := 9) (v := .int s_b1_length) (C := RX9) (T := TX9) (N := 2) hx hb hts hn_X4_read_X9 hown hK hP 1 rfl rfl 1 (by decide) (va_Nw.use rfl (hN _ nw_X4_42)) (fun _ h9 => h9) rfl dX4_read_107 ?_
      refine lv_goto (tgt := 114) hx hb dX4_read_110 (by decide) ?_
      obtain ⟨rfl, rfl⟩ := pe2 hf
      exact m_iret hx hb hr hlocks hP hS dX4_read_114
    have hf := pbr_f c_1 hf
    refine lv_aload_n hx hb dX4_read_12 rfl (lv_at hl 1 rfl) ?_
    refine lv_iload_n hx hb dX4_read_13 rfl (lv_at hl 3 rfl) ?_
    obtain ⟨r_3, hc_4, hf⟩ := pcl_e hf
    refine m_callV2 (As := [.int x3]) (rest := []) ⟨hx, hb, hml, hown, hts⟩ hX (ct_X9_byteAt l D cA x3 b1 b1_bytes s_b1_length s_b1_bytes r_3 hc_4) (cwV 1 hts gX4_read_X9_byteAt rfl rfl rfl (by decide +kernel) ⟨Nat.le_of_ble_eq_true rfl, Nat.le_of_ble_eq_true rfl⟩) hP hD hS hA [1, 2] [0, 3] 4 (by decide) rfl rfl (WS' := (w_X4_read a0 b1 b1_bytes q_figures q_depths q_times cA s_pace s_fade s_b1_length s_b1_bytes s_figures)) (WR := [(a0, .inr (4, [.ref q_depths, .ref q_figures, .ref q_times, .int s_pace, .int s_fade])), (q_figures, .inl (cA 1, 48, .inl s_figures))]) rfl rfl rfl rfl (by decide) (by decide) 1 9 rfl rfl rfl hl.1 rfl (st' := [.int r_3]) rfl (Nat.le_of_ble_eq_true rfl) ⟨Nat.zero_le _, Nat.zero_le _⟩ dX4_read_14 (fun H locs hP hD hS => ?_)
    refine lv_bipush (v := (32 : Int32)) hx hb dX4_read_17 (by decide) ?_
    refine lv_icmp_ne (tgt := 25) hx hb dX4_read_19 (by decide) (fun c_5 => ?_) (fun c_5 => ?_)
    · have hf := pbr_f c_5 hf
      refine lv_iload_n hx hb dX4_read_25 rfl (lv_at hl 2 rfl) ?_
      refine lv_bipush (v := (54 : Int32)) hx hb dX4_read_26 (by decide) ?_
      refine lv_icmp_lt (tgt := 33) hx hb dX4_read_28 (by decide) (fun c_6 => ?_) (fun c_6 => ?_)
      · have hf := pbr_t c_6 hf
        refine lv_iload_n hx hb dX4_read_33 rfl (lv_at hl 2 rfl) ?_
        refine lv_bipush (v := (9 : Int32)) hx hb dX4_read_34 (by decide) ?_
        refine lv_irem hx hb dX4_read_36 (by decide) ?_
        refine lv_topi (fun x4_7 ex4_7 => ?_)
        have hf := plt_e ex4_7 hf
        refine lv_istore (lv' := [(4, .int x4_7), (0, .ref a0), (1, .ref b1), (2, .int x2), (3, .int x3)]) hx hb dX4_read_37 hl (by decide) rfl (fun ls hl => ?_)
        refine lv_iload hx hb dX4_read_39 (lv_at hl 0 rfl) ?_
        refine lv_bipush (v := (8 : Int32)) hx hb dX4_read_41 (by decide) ?_
        refine lv_icmp_ne (tgt := 58) hx hb dX4_read_43 (by decide) (fun c_8 => ?_) (fun c_8 => ?_)
        · have hf := pbr_f c_8 hf
          refine lv_aload_n hx hb dX4_read_58 rfl (lv_at hl 2 rfl) ?_
          refine lv_iload_n hx hb dX4_read_59 rfl (lv_at hl 4 rfl) ?_
          obtain ⟨r_9, hc_10, hf⟩ := pcl_e hf
          refine m_callV2 (As := [.int x3]) (rest := []) ⟨hx, hb, hml, hown, hts⟩ hX (ct_X9_isFigure l D cA x3 b1 b1_bytes s_b1_length s_b1_bytes r_9 hc_10) (cwV 1 hts gX4_read_X9_isFigure rfl rfl rfl (by decide +kernel) ⟨Nat.le_of_ble_eq_true rfl, Nat.le_of_ble_eq_true rfl⟩) hP hD hS hA [1, 2] [0, 3] 4 (by decide) rfl rfl (WS' := (w_X4_read a0 b1 b1_bytes q_figures q_depths q_times cA s_pace s_fade s_b1_length s_b1_bytes s_figures)) (WR := [(a0, .inr (4, [.ref q_depths, .ref q_figures, .ref q_times, .int s_pace, .int s_fade])), (q_figures, .inl (cA 1, 48, .inl s_figures))]) rfl rfl rfl rfl (by decide) (by decide) 1 9 rfl rfl rfl hl.1 rfl (st' := [.int r_9]) rfl (Nat.le_of_ble_eq_true rfl) ⟨Nat.zero_le _, Nat.zero_le _⟩ dX4_read_60 (fun H locs hP hD hS => ?_)
          refine lv_if_ne (tgt := 68) hx hb dX4_read_63 (by decide) (fun c_11 => ?_) (fun c_11 => ?_)
          · have hf := pbr_f c_11 hf
            refine lv_aload_n hx hb dX4_read_68 rfl (lv_at hl 1 rfl) ?_
            refine va_get (D := D) (ci := 4) (v := .ref q_figures) (C := RX4) (T := TX4) (N := 5) hx hb hts hn_X4_read_X4 hown hK hP 0 rfl rfl 1 (by decide) (hts _ hw_X4_read_f15) (fun _ h9 => h9) rfl dX4_read_69 ?_
            refine lv_iload_n hx hb dX4_read_72 rfl (lv_at hl 3 rfl) ?_
            refine lv_bipush (v := (9 : Int32)) hx hb dX4_read_73 (by decide) ?_
            refine lv_idiv hx hb dX4_read_75 (by decide) ?_
            refine lv_bipush (v := (8 : Int32)) hx hb dX4_read_76 (by decide) ?_
            refine lv_imul hx hb dX4_read_78 ?_
            refine lv_iload hx hb dX4_read_79 (lv_at hl 0 rfl) ?_
            refine lv_iadd hx hb dX4_read_81 ?_
            refine lv_aload_n hx hb dX4_read_82 rfl (lv_at hl 2 rfl) ?_
            refine lv_iload_n hx hb dX4_read_83 rfl (lv_at hl 4 rfl) ?_
            obtain ⟨r_12, hc_13, hf⟩ := pcl_e hf
            refine m_callV2 (As := [.int x3]) (rest := [.int (((x2 / (9 : Int32)) * (8 : Int32)) + x4_7), .ref q_figures]) ⟨hx, hb, hml, hown, hts⟩ hX (ct_X9_byteAt l D cA x3 b1 b1_bytes s_b1_length s_b1_bytes r_12 hc_13) (cwV 1 hts gX4_read_X9_byteAt rfl rfl rfl (by decide +kernel) ⟨Nat.le_of_ble_eq_true rfl, Nat.le_of_ble_eq_true rfl⟩) hP hD hS hA [1, 2] [0, 3] 4 (by decide) rfl rfl (WS' := (w_X4_read a0 b1 b1_bytes q_figures q_depths q_times cA s_pace s_fade s_b1_length s_b1_bytes s_figures)) (WR := [(a0, .inr (4, [.ref q_depths, .ref q_figures, .ref q_times, .int s_pace, .int s_fade])), (q_figures, .inl (cA 1, 48, .inl s_figures))]) rfl rfl rfl rfl (by decide) (by decide) 1 9 rfl rfl rfl hl.1 rfl (st' := [.int r_12, .int (((x2 / (9 : Int32)) * (8 : Int32)) + x4_7), .ref q_figures]) rfl (Nat.le_of_ble_eq_true rfl) ⟨Nat.zero_le _, Nat.zero_le _⟩ dX4_read_84 (fun H locs hP hD hS => ?_)
            refine lv_bipush (v := (48 : Int32)) hx hb dX4_read_87 (by decide) ?_
            refine lv_isub hx hb dX4_read_89 ?_
            obtain ⟨g_14, hf⟩ := pgd_e hf
            refine va_iast hx hb hK hP hD hS 3 1 rfl rfl g_14 dX4_read_90 (fun H locs hP hD hS => ?_)
            obtain ⟨f_15, ef_15⟩ : ∃ z : Nat → Int32, z = upd s_figures (((x2 / (9 : Int32)) * (8 : Int32)) + x4_7).toNatClampNeg (r_12 - (48 : Int32)) := ⟨_, rfl⟩
            have hf := plt_e ef_15 hf
            have hP : va_P D vwCl (w_X4_read a0 b1 b1_bytes q_figures q_depths q_times cA s_pace s_fade s_b1_length s_b1_bytes f_15) H := by rw [ef_15]; exact hP
            have hD : va_D A (w_X4_read a0 b1 b1_bytes q_figures q_depths q_times cA s_pace s_fade s_b1_length s_b1_bytes f_15) := by rw [ef_15]; exact hD
            obtain ⟨x2_16, ex2_16⟩ : ∃ z : Int32, z = x2 + (1 : Int32) := ⟨_, rfl⟩
            have hf := plt_e ex2_16 hf
            refine lv_iinc (v := x2_16) (lv' := [(2, .int x2_16), (4, .int x4_7), (0, .ref a0), (1, .ref b1), (3, .int x3)]) hx hb dX4_read_91 hl (k := 3) rfl (by rw [ex2_16]; rfl) (by decide) rfl (fun ls hl => ?_)
            obtain ⟨x3_17, ex3_17⟩ : ∃ z : Int32, z = x3 + (1 : Int32) := ⟨_, rfl⟩
            have hf := plt_e ex3_17 hf
            refine lv_iinc (v := x3_17) (lv' := [(3, .int x3_17), (2, .int x2_16), (4, .int x4_7), (0, .ref a0), (1, .ref b1)]) hx hb dX4_read_94 hl (k := 4) rfl (by rw [ex3_17]; rfl) (by decide) rfl (fun ls hl => ?_)
            refine lv_goto (tgt := 4) hx hb dX4_read_97 (by decide) ?_
            exact ih x2_16 x3_17 f_15 hf _ _ hP hD hS ls (lv_sub hl [3, 4, 1, 0] rfl)
          have hf := pbr_t c_11 hf
          refine lv_iload_n hx hb dX4_read_66 rfl (lv_at hl 4 rfl) ?_
          obtain ⟨rfl, rfl⟩ := pe2 hf
          exact m_iret hx hb hr hlocks hP hS dX4_read_67
        have hf := pbr_t c_8 hf
        refine lv_aload_n hx hb dX4_read_46 rfl (lv_at hl 2 rfl) ?_
        refine lv_iload_n hx hb dX4_read_47 rfl (lv_at hl 4 rfl) ?_
        obtain ⟨r_18, hc_19, hf⟩ := pcl_e hf
        refine m_callV2 (As := [.int x3]) (rest := []) ⟨hx, hb, hml, hown, hts⟩ hX (ct_X9_byteAt l D cA x3 b1 b1_bytes s_b1_length s_b1_bytes r_18 hc_19) (cwV 1 hts gX4_read_X9_byteAt rfl rfl rfl (by decide +kernel) ⟨Nat.le_of_ble_eq_true rfl, Nat.le_of_ble_eq_true rfl⟩) hP hD hS hA [1, 2] [0, 3] 4 (by decide) rfl rfl (WS' := (w_X4_read a0 b1 b1_bytes q_figures q_depths q_times cA s_pace s_fade s_b1_length s_b1_bytes s_figures)) (WR := [(a0, .inr (4, [.ref q_depths, .ref q_figures, .ref q_times, .int s_pace, .int s_fade])), (q_figures, .inl (cA 1, 48, .inl s_figures))]) rfl rfl rfl rfl (by decide) (by decide) 1 9 rfl rfl rfl hl.1 rfl (st' := [.int r_18]) rfl (Nat.le_of_ble_eq_true rfl) ⟨Nat.zero_le _, Nat.zero_le _⟩ dX4_read_48 (fun H locs hP hD hS => ?_)
        refine lv_bipush (v := (59 : Int32)) hx hb dX4_read_51 (by decide) ?_
        refine lv_icmp_eq (tgt := 91) hx hb dX4_read_53 (by decide) (fun c_20 => ?_) (fun c_20 => ?_)
        · have hf := pbr_t c_20 hf
          obtain ⟨x2_21, ex2_21⟩ : ∃ z : Int32, z = x2 + (1 : Int32) := ⟨_, rfl⟩
          have hf := plt_e ex2_21 hf
          refine lv_iinc (v := x2_21) (lv' := [(2, .int x2_21), (4, .int x4_7), (0, .ref a0), (1, .ref b1), (3, .int x3)]) hx hb dX4_read_91 hl (k := 3) rfl (by rw [ex2_21]; rfl) (by decide) rfl (fun ls hl => ?_)
          obtain ⟨x3_22, ex3_22⟩ : ∃ z : Int32, z = x3 + (1 : Int32) := ⟨_, rfl⟩
          have hf := plt_e ex3_22 hf
          refine lv_iinc (v := x3_22) (lv' := [(3, .int x3_22), (2, .int x2_21), (4, .int x4_7), (0, .ref a0), (1, .ref b1)]) hx hb dX4_read_94 hl (k := 4) rfl (by rw [ex3_22]; rfl) (by decide) rfl (fun ls hl => ?_)
          refine lv_goto (tgt := 4) hx hb dX4_read_97 (by decide) ?_
          exact ih x2_21 x3_22 s_figures hf _ _ hP hD hS ls (lv_sub hl [3, 4, 1, 0] rfl)
        have hf := pbr_f c_20 hf
        refine lv_iload_n hx hb dX4_read_56 rfl (lv_at hl 4 rfl) ?_
        obtain ⟨rfl, rfl⟩ := pe2 hf
        exact m_iret hx hb hr hlocks hP hS dX4_read_57
      have hf := pbr_f c_6 hf
      refine lv_iload_n hx hb dX4_read_31 rfl (lv_at hl 3 rfl) ?_
      obtain ⟨rfl, rfl⟩ := pe2 hf
      exact m_iret hx hb hr hlocks hP hS dX4_read_32
    have hf := pbr_t c_5 hf
    refine lv_goto (tgt := 94) hx hb dX4_read_22 (by decide) ?_
    obtain ⟨x3_23, ex3_23⟩ : ∃ z : Int32, z = x3 + (1 : Int32) := ⟨_, rfl⟩
    have hf := plt_e ex3_23 hf
    refine lv_iinc (v := x3_23) (lv' := [(3, .int x3_23), (0, .ref a0), (1, .ref b1), (2, .int x2)]) hx hb dX4_read_94 hl (k := 3) rfl (by rw [ex3_23]; rfl) (by decide) rfl (fun ls hl => ?_)
    refine lv_goto (tgt := 4) hx hb dX4_read_97 (by decide) ?_
    exact ih x2 x3_23 s_figures hf _ _ hP hD hS ls (lv_sub hl [1, 2, 3, 0] rfl)

def f_X4_read (s_b1_length : Int32) (s_b1_bytes : Nat → Int32) (s_figures : Nat → Int32) : Option ((Int32) × (Nat → Int32)) :=
  f_X4_read_4 s_b1_length s_b1_bytes FU (0 : Int32) (0 : Int32) s_figures

set_option maxRecDepth 100000 in
set_option maxHeartbeats 4000000 in
theorem ct_X4_read (l : Launch) (D : va_G) (cA : Nat → ClassId) (a0 : Nat) (b1 : Nat) (b1_bytes : Nat) (q_figures : Nat) (q_depths : Nat) (q_times : Nat) (s_pace : Int32) (s_fade : Int32) (s_b1_length : Int32) (s_b1_bytes : Nat → Int32) (s_figures : Nat → Int32) (o_r : Int32) (o_figures : Nat → Int32) (hf : f_X4_read s_b1_length s_b1_bytes s_figures = some (o_r, o_figures)) : CT l yX4_read wsX4_read rm_X4_read D cA [.ref a0, .ref b1] (w_X4_read a0 b1 b1_bytes q_figures q_depths q_times cA s_pace s_fade s_b1_length s_b1_bytes s_figures) (w_X4_read a0 b1 b1_bytes q_figures q_depths q_times cA s_pace s_fade s_b1_length s_b1_bytes o_figures) (some (.int o_r)) := by
  refine CT.ofW (cc := cX4_read) (maxL := 5) (ret := (some .int)) (by decide +kernel) rfl (Nat.le_of_ble_eq_true rfl) ?_
  intro p e s m below meth c A C0 hA hP hD ls hl
  have C0 : MX p s m [.ref a0, .ref b1].toArray meth c cX4_read 5 wsX4_read RX4 (some .int) D cA := C0
  have hl : lv_has ls 5 [(0, .ref a0), (1, .ref b1)] := hl
  obtain ⟨hx, hb, hml, hown, hts, hr, hlocks, hX⟩ := id C0
  have hK := hX.1
  have hN := hX.2
  have hS : va_S A s.heap s.heap [] := va_S.rf
  unfold f_X4_read at hf
  refine lv_iconst (v := (0 : Int32)) hx hb dX4_read_0 (by decide) ?_
  refine lv_istore_n (lv' := [(2, .int (0 : Int32)), (0, .ref a0), (1, .ref b1)]) hx hb dX4_read_1 rfl hl (by decide) rfl (fun ls hl => ?_)
  refine lv_iconst (v := (0 : Int32)) hx hb dX4_read_2 (by decide) ?_
  refine lv_istore_n (lv' := [(3, .int (0 : Int32)), (2, .int (0 : Int32)), (0, .ref a0), (1, .ref b1)]) hx hb dX4_read_3 rfl hl (by decide) rfl (fun ls hl => ?_)
  exact k_X4_read_4 C0 hA FU (0 : Int32) (0 : Int32) s_figures hf _ _ hP hD hS ls (lv_sub hl [2, 3, 1, 0] rfl)

/-! ===== OrphanWave$Ocean.become(LOrphanWave$Text;)I ===== -/
abbrev rm_X4_become : Room := { frames := 3, cells := 0, slots := 0, locals := 67 }
abbrev w_X4_become (a0 : Nat) (b1 : Nat) (b1_bytes : Nat) (q_figures : Nat) (q_depths : Nat) (q_times : Nat) (cA : Nat → ClassId) (s_pace : Int32) (s_fade : Int32) (s_b1_length : Int32) (s_b1_bytes : Nat → Int32) (s_figures : Nat → Int32) (s_depths : Nat → Int32) : va_W := [(a0, .inr (4, [.ref q_depths, .ref q_figures, .ref q_times, .int s_pace, .int s_fade])), (b1, .inr (9, [.ref b1_bytes, .int s_b1_length])), (b1_bytes, .inl (cA 0, 400, .inl s_b1_bytes)), (q_figures, .inl (cA 1, 48, .inl s_figures)), (q_depths, .inl (cA 1, 48, .inl s_depths))]
theorem hn_X4_become_X4 : ∀ w ∈ u_ws RX4 TX4 5, w ∈ wsX4_become := by decide +kernel
theorem hw_X4_become_f15 : Cond.fieldLink RX4 15 "OrphanWave$Ocean" "figures" "[I" ∈ wsX4_become := by decide +kernel
theorem hw_X4_become_f9 : Cond.fieldLink RX4 9 "OrphanWave$Ocean" "depths" "[I" ∈ wsX4_become := by decide +kernel
theorem hw_X4_become_m36 : Cond.methodLink RX4 36 arraycopyName ∈ wsX4_become := by decide +kernel
theorem hw_X4_become_nac : Cond.native arraycopyName ∈ wsX4_become := by decide +kernel
theorem hw_X4_become_sac : Cond.static arraycopyName ∈ wsX4_become := by decide +kernel
theorem hw_X4_become_isys : Cond.initialized "java/lang/System" ∈ wsX4_become := by decide +kernel

def f_X4_become (s_b1_length : Int32) (s_b1_bytes : Nat → Int32) (s_figures : Nat → Int32) (s_depths : Nat → Int32) : Option ((Int32) × (Nat → Int32) × (Nat → Int32)) :=
  pcl (f_X4_read s_b1_length s_b1_bytes s_figures) (fun (r_1, figures_2) => (
  pbr (r_1 = (-1 : Int32))
    (plt (va_cpy figures_2 s_depths (0 : Int32).toNatClampNeg (0 : Int32).toNatClampNeg (48 : Int32).toNatClampNeg : Nat → Int32) (fun f_5 => (
    some (r_1, figures_2, f_5))))
    (some (r_1, figures_2, s_depths))))

set_option maxRecDepth 100000 in
set_option maxHeartbeats 4000000 in
theorem ct_X4_become (l : Launch) (D : va_G) (cA : Nat → ClassId) (a0 : Nat) (b1 : Nat) (b1_bytes : Nat) (q_figures : Nat) (q_depths : Nat) (q_times : Nat) (s_pace : Int32) (s_fade : Int32) (s_b1_length : Int32) (s_b1_bytes : Nat → Int32) (s_figures : Nat → Int32) (s_depths : Nat → Int32) (o_r : Int32) (o_figures : Nat → Int32) (o_depths : Nat → Int32) (hf : f_X4_become s_b1_length s_b1_bytes s_figures s_depths = some (o_r, o_figures, o_depths)) : CT l yX4_become wsX4_become rm_X4_become D cA [.ref a0, .ref b1] (w_X4_become a0 b1 b1_bytes q_figures q_depths q_times cA s_pace s_fade s_b1_length s_b1_bytes s_figures s_depths) (w_X4_become a0 b1 b1_bytes q_figures q_depths q_times cA s_pace s_fade s_b1_length s_b1_bytes o_figures o_depths) (some (.int o_r)) := by
  refine CT.ofW (cc := cX4_become) (maxL := 3) (ret := (some .int)) (by decide +kernel) rfl (Nat.le_of_ble_eq_true rfl) ?_
  intro p e s m below meth c A C0 hA hP hD ls hl
  have C0 : MX p s m [.ref a0, .ref b1].toArray meth c cX4_become 3 wsX4_become RX4 (some .int) D cA := C0
  have hl : lv_has ls 3 [(0, .ref a0), (1, .ref b1)] := hl
  obtain ⟨hx, hb, hml, hown, hts, hr, hlocks, hX⟩ := id C0
  have hK := hX.1
  have hN := hX.2
  have hS : va_S A s.heap s.heap [] := va_S.rf
  unfold f_X4_become at hf
  refine lv_aload_n hx hb dX4_become_0 rfl (lv_at hl 0 rfl) ?_
  refine lv_aload_n hx hb dX4_become_1 rfl (lv_at hl 1 rfl) ?_
  obtain ⟨⟨r_1, figures_2⟩, hc_3, hf⟩ := pcl_e hf
  refine m_callV2 (As := [.ref b1]) (rest := []) ⟨hx, hb, hml, hown, hts⟩ hX (ct_X4_read l D cA a0 b1 b1_bytes q_figures q_depths q_times s_pace s_fade s_b1_length s_b1_bytes s_figures r_1 figures_2 hc_3) (cwV 1 hts gX4_become_X4_read rfl rfl rfl (by decide +kernel) ⟨Nat.le_of_ble_eq_true rfl, Nat.le_of_ble_eq_true rfl⟩) hP hD hS hA [0, 1, 2, 3] [4] 5 (by decide) rfl rfl (WS' := (w_X4_become a0 b1 b1_bytes q_figures q_depths q_times cA s_pace s_fade s_b1_length s_b1_bytes figures_2 s_depths)) (WR := [(q_depths, .inl (cA 1, 48, .inl s_depths))]) rfl rfl rfl rfl (by decide) (by decide) 0 4 rfl rfl rfl hl.1 rfl (st' := [.int r_1]) rfl (Nat.le_of_ble_eq_true rfl) ⟨Nat.zero_le _, Nat.zero_le _⟩ dX4_become_2 (fun H locs hP hD hS => ?_)
  refine lv_istore_n (lv' := [(2, .int r_1), (0, .ref a0), (1, .ref b1)]) hx hb dX4_become_5 rfl hl (by decide) rfl (fun ls hl => ?_)
  refine lv_iload_n hx hb dX4_become_6 rfl (lv_at hl 0 rfl) ?_
  refine lv_iconst (v := (-1 : Int32)) hx hb dX4_become_7 (by decide) ?_
  refine lv_icmp_ne (tgt := 26) hx hb dX4_become_8 (by decide) (fun c_4 => ?_) (fun c_4 => ?_)
  · have hf := pbr_f c_4 hf
    refine lv_iload_n hx hb dX4_become_26 rfl (lv_at hl 0 rfl) ?_
    obtain ⟨rfl, rfl, rfl⟩ := pe3 hf
    exact m_iret hx hb hr hlocks hP hS dX4_become_27
  have hf := pbr_t c_4 hf
  refine lv_aload_n hx hb dX4_become_11 rfl (lv_at hl 1 rfl) ?_
  refine va_get (D := D) (ci := 4) (v := .ref q_figures) (C := RX4) (T := TX4) (N := 5) hx hb hts hn_X4_become_X4 hown hK hP 0 rfl rfl 1 (by decide) (hts _ hw_X4_become_f15) (fun _ h9 => h9) rfl dX4_become_12 ?_
  refine lv_iconst (v := (0 : Int32)) hx hb dX4_become_15 (by decide) ?_
  refine lv_aload_n hx hb dX4_become_16 rfl (lv_at hl 1 rfl) ?_
  refine va_get (D := D) (ci := 4) (v := .ref q_depths) (C := RX4) (T := TX4) (N := 5) hx hb hts hn_X4_become_X4 hown hK hP 0 rfl rfl 0 (by decide) (hts _ hw_X4_become_f9) (fun _ h9 => h9) rfl dX4_become_17 ?_
  refine lv_iconst (v := (0 : Int32)) hx hb dX4_become_20 (by decide) ?_
  refine lv_bipush (v := (48 : Int32)) hx hb dX4_become_21 (by decide) ?_
  refine va_copyi (ty := .int) hx hb (hml.trans hl.1.symm) hown (hts _ hw_X4_become_m36) (hts _ hw_X4_become_nac) (hts _ hw_X4_become_sac) (hts _ hw_X4_become_isys) hK hP hD hS 3 4 1 1 rfl rfl rfl rfl rfl (by decide) (by decide) (by decide) (by decide +kernel) (by decide +kernel) (fun _ _ => rfl) (Nat.le_of_ble_eq_true rfl) (Nat.le_of_ble_eq_true rfl) dX4_become_23 (fun H locs hP hD hS => ?_)
  obtain ⟨f_5, ef_5⟩ : ∃ z : Nat → Int32, z = va_cpy figures_2 s_depths (0 : Int32).toNatClampNeg (0 : Int32).toNatClampNeg (48 : Int32).toNatClampNeg := ⟨_, rfl⟩
  have hf := plt_e ef_5 hf
  have hP : va_P D vwCl (w_X4_become a0 b1 b1_bytes q_figures q_depths q_times cA s_pace s_fade s_b1_length s_b1_bytes figures_2 f_5) H := by rw [ef_5]; exact hP
  have hD : va_D A (w_X4_become a0 b1 b1_bytes q_figures q_depths q_times cA s_pace s_fade s_b1_length s_b1_bytes figures_2 f_5) := by rw [ef_5]; exact hD
  refine lv_iload_n hx hb dX4_become_26 rfl (lv_at hl 0 rfl) ?_
  obtain ⟨rfl, rfl, rfl⟩ := pe3 hf
  exact m_iret hx hb hr hlocks hP hS dX4_become_27

/-! ===== OrphanWave$Ocean.shorten([III)Z ===== -/
abbrev rm_X4_shorten : Room := { frames := 0, cells := 0, slots := 0, locals := 0 }
abbrev w_X4_shorten (a0 : Nat) (b1 : Nat) (q_depths : Nat) (q_figures : Nat) (q_times : Nat) (cA : Nat → ClassId) (s_pace : Int32) (s_fade : Int32) (s_b1 : Nat → Int32) (s_depths : Nat → Int32) : va_W := [(a0, .inr (4, [.ref q_depths, .ref q_figures, .ref q_times, .int s_pace, .int s_fade])), (b1, .inl (cA 1, 48, .inl s_b1)), (q_depths, .inl (cA 1, 48, .inl s_depths))]
theorem hn_X4_shorten_X4 : ∀ w ∈ u_ws RX4 TX4 5, w ∈ wsX4_shorten := by decide +kernel
theorem hw_X4_shorten_f21 : Cond.fieldLink RX4 21 "OrphanWave$Ocean" "pace" "I" ∈ wsX4_shorten := by decide +kernel
theorem hw_X4_shorten_f9 : Cond.fieldLink RX4 9 "OrphanWave$Ocean" "depths" "[I" ∈ wsX4_shorten := by decide +kernel

def f_X4_shorten (x2 : Int32) (x3 : Int32) (s_pace : Int32) (s_b1 : Nat → Int32) (s_depths : Nat → Int32) : Option ((Int32) × (Nat → Int32)) :=
  pgd (pin x3 48) (
  pbr ((s_b1 x3.toNatClampNeg) = (-9 : Int32))
    (some ((0 : Int32), s_b1))
    (plt (((s_b1 x3.toNatClampNeg) + (s_pace * ((10 : Int32) - (s_depths x3.toNatClampNeg)))) : Int32) (fun x4_3 => (
    pgd (pin x2 48) (
    pbr ((s_b1 x2.toNatClampNeg) = (-9 : Int32))
      (plt (upd s_b1 x2.toNatClampNeg x4_3 : Nat → Int32) (fun f_6 => (
      some ((1 : Int32), f_6))))
      (pbr (x4_3 < (s_b1 x2.toNatClampNeg))
        (plt (upd s_b1 x2.toNatClampNeg x4_3 : Nat → Int32) (fun f_8 => (
        some ((1 : Int32), f_8))))
        (some ((0 : Int32), s_b1))))))))

set_option maxRecDepth 100000 in
set_option maxHeartbeats 4000000 in
theorem ct_X4_shorten (l : Launch) (D : va_G) (cA : Nat → ClassId) (x2 : Int32) (x3 : Int32) (a0 : Nat) (b1 : Nat) (q_depths : Nat) (q_figures : Nat) (q_times : Nat) (s_pace : Int32) (s_fade : Int32) (s_b1 : Nat → Int32) (s_depths : Nat → Int32) (o_r : Int32) (o_b1 : Nat → Int32) (hf : f_X4_shorten x2 x3 s_pace s_b1 s_depths = some (o_r, o_b1)) : CT l yX4_shorten wsX4_shorten rm_X4_shorten D cA [.ref a0, .ref b1, .int x2, .int x3] (w_X4_shorten a0 b1 q_depths q_figures q_times cA s_pace s_fade s_b1 s_depths) (w_X4_shorten a0 b1 q_depths q_figures q_times cA s_pace s_fade o_b1 s_depths) (some (.int o_r)) := by
  refine CT.ofW (cc := cX4_shorten) (maxL := 5) (ret := (some .boolean)) (by decide +kernel) rfl (Nat.le_of_ble_eq_true rfl) ?_
  intro p e s m below meth c A C0 hA hP hD ls hl
  have C0 : MX p s m [.ref a0, .ref b1, .int x2, .int x3].toArray meth c cX4_shorten 5 wsX4_shorten RX4 (some .boolean) D cA := C0
  have hl : lv_has ls 5 [(0, .ref a0), (1, .ref b1), (2, .int x2), (3, .int x3)] := hl
  obtain ⟨hx, hb, hml, hown, hts, hr, hlocks, hX⟩ := id C0
  have hK := hX.1
  have hN := hX.2
  have hS : va_S A s.heap s.heap [] := va_S.rf
  unfold f_X4_shorten at hf
  refine lv_aload_n hx hb dX4_shorten_0 rfl (lv_at hl 1 rfl) ?_
  refine lv_iload_n hx hb dX4_shorten_1 rfl (lv_at hl 3 rfl) ?_
  obtain ⟨g_1, hf⟩ := pgd_e hf
  refine va_iald hx hb hK hP 1 1 rfl rfl g_1 dX4_shorten_2 ?_
  refine lv_bipush (v := (-9 : Int32)) hx hb dX4_shorten_3 (by decide) ?_
  refine lv_icmp_ne (tgt := 10) hx hb dX4_shorten_5 (by decide) (fun c_2 => ?_) (fun c_2 => ?_)
  · have hf := pbr_f c_2 hf
    refine lv_aload_n hx hb dX4_shorten_10 rfl (lv_at hl 1 rfl) ?_
    refine lv_iload_n hx hb dX4_shorten_11 rfl (lv_at hl 3 rfl) ?_
    refine va_iald hx hb hK hP 1 1 rfl rfl g_1 dX4_shorten_12 ?_
    refine lv_aload_n hx hb dX4_shorten_13 rfl (lv_at hl 0 rfl) ?_
    refine va_get (D := D) (ci := 4) (v := .int s_pace) (C := RX4) (T := TX4) (N := 5) hx hb hts hn_X4_shorten_X4 hown hK hP 0 rfl rfl 3 (by decide) (hts _ hw_X4_shorten_f21) (fun _ h9 => h9) rfl dX4_shorten_14 ?_
    refine lv_bipush (v := (10 : Int32)) hx hb dX4_shorten_17 (by decide) ?_
    refine lv_aload_n hx hb dX4_shorten_19 rfl (lv_at hl 0 rfl) ?_
    refine va_get (D := D) (ci := 4) (v := .ref q_depths) (C := RX4) (T := TX4) (N := 5) hx hb hts hn_X4_shorten_X4 hown hK hP 0 rfl rfl 0 (by decide) (hts _ hw_X4_shorten_f9) (fun _ h9 => h9) rfl dX4_shorten_20 ?_
    refine lv_iload_n hx hb dX4_shorten_23 rfl (lv_at hl 3 rfl) ?_
    refine va_iald hx hb hK hP 2 1 rfl rfl g_1 dX4_shorten_24 ?_
    refine lv_isub hx hb dX4_shorten_25 ?_
    refine lv_imul hx hb dX4_shorten_26 ?_
    refine lv_iadd hx hb dX4_shorten_27 ?_
    refine lv_topi (fun x4_3 ex4_3 => ?_)
    have hf := plt_e ex4_3 hf
    refine lv_istore (lv' := [(4, .int x4_3), (0, .ref a0), (1, .ref b1), (2, .int x2), (3, .int x3)]) hx hb dX4_shorten_28 hl (by decide) rfl (fun ls hl => ?_)
    refine lv_aload_n hx hb dX4_shorten_30 rfl (lv_at hl 2 rfl) ?_
    refine lv_iload_n hx hb dX4_shorten_31 rfl (lv_at hl 3 rfl) ?_
    obtain ⟨g_4, hf⟩ := pgd_e hf
    refine va_iald hx hb hK hP 1 1 rfl rfl g_4 dX4_shorten_32 ?_
    refine lv_bipush (v := (-9 : Int32)) hx hb dX4_shorten_33 (by decide) ?_
    refine lv_icmp_eq (tgt := 48) hx hb dX4_shorten_35 (by decide) (fun c_5 => ?_) (fun c_5 => ?_)
    · have hf := pbr_t c_5 hf
      refine lv_aload_n hx hb dX4_shorten_48 rfl (lv_at hl 2 rfl) ?_
      refine lv_iload_n hx hb dX4_shorten_49 rfl (lv_at hl 3 rfl) ?_
      refine lv_iload hx hb dX4_shorten_50 (lv_at hl 0 rfl) ?_
      refine va_iast hx hb hK hP hD hS 1 1 rfl rfl g_4 dX4_shorten_52 (fun H locs hP hD hS => ?_)
      obtain ⟨f_6, ef_6⟩ : ∃ z : Nat → Int32, z = upd s_b1 x2.toNatClampNeg x4_3 := ⟨_, rfl⟩
      have hf := plt_e ef_6 hf
      have hP : va_P D vwCl (w_X4_shorten a0 b1 q_depths q_figures q_times cA s_pace s_fade f_6 s_depths) H := by rw [ef_6]; exact hP
      have hD : va_D A (w_X4_shorten a0 b1 q_depths q_figures q_times cA s_pace s_fade f_6 s_depths) := by rw [ef_6]; exact hD
      refine lv_iconst (v := (1 : Int32)) hx hb dX4_shorten_53 (by decide) ?_
      obtain ⟨rfl, rfl⟩ := pe2 hf
      exact m_zret (by decide) hx hb hr hlocks hP hS dX4_shorten_54
    have hf := pbr_f c_5 hf
    refine lv_aload_n hx hb dX4_shorten_38 rfl (lv_at hl 2 rfl) ?_
    refine lv_iload_n hx hb dX4_shorten_39 rfl (lv_at hl 3 rfl) ?_
    refine va_iald hx hb hK hP 1 1 rfl rfl g_4 dX4_shorten_40 ?_
    refine lv_iload hx hb dX4_shorten_41 (lv_at hl 0 rfl) ?_
    refine lv_icmp_gt (tgt := 48) hx hb dX4_shorten_43 (by decide) (fun c_7 => ?_) (fun c_7 => ?_)
    · have hf := pbr_t c_7 hf
      refine lv_aload_n hx hb dX4_shorten_48 rfl (lv_at hl 2 rfl) ?_
      refine lv_iload_n hx hb dX4_shorten_49 rfl (lv_at hl 3 rfl) ?_
      refine lv_iload hx hb dX4_shorten_50 (lv_at hl 0 rfl) ?_
      refine va_iast hx hb hK hP hD hS 1 1 rfl rfl g_4 dX4_shorten_52 (fun H locs hP hD hS => ?_)
      obtain ⟨f_8, ef_8⟩ : ∃ z : Nat → Int32, z = upd s_b1 x2.toNatClampNeg x4_3 := ⟨_, rfl⟩
      have hf := plt_e ef_8 hf
      have hP : va_P D vwCl (w_X4_shorten a0 b1 q_depths q_figures q_times cA s_pace s_fade f_8 s_depths) H := by rw [ef_8]; exact hP
      have hD : va_D A (w_X4_shorten a0 b1 q_depths q_figures q_times cA s_pace s_fade f_8 s_depths) := by rw [ef_8]; exact hD
      refine lv_iconst (v := (1 : Int32)) hx hb dX4_shorten_53 (by decide) ?_
      obtain ⟨rfl, rfl⟩ := pe2 hf
      exact m_zret (by decide) hx hb hr hlocks hP hS dX4_shorten_54
    have hf := pbr_f c_7 hf
    refine lv_iconst (v := (0 : Int32)) hx hb dX4_shorten_46 (by decide) ?_
    obtain ⟨rfl, rfl⟩ := pe2 hf
    exact m_zret (by decide) hx hb hr hlocks hP hS dX4_shorten_47
  have hf := pbr_t c_2 hf
  refine lv_iconst (v := (0 : Int32)) hx hb dX4_shorten_8 (by decide) ?_
  obtain ⟨rfl, rfl⟩ := pe2 hf
  exact m_zret (by decide) hx hb hr hlocks hP hS dX4_shorten_9

/-! ===== OrphanWave$Ocean.sweep([I)Z ===== -/
abbrev rm_X4_sweep : Room := { frames := 1, cells := 0, slots := 0, locals := 24 }
abbrev w_X4_sweep (a0 : Nat) (b1 : Nat) (q_depths : Nat) (q_figures : Nat) (q_times : Nat) (cA : Nat → ClassId) (s_pace : Int32) (s_fade : Int32) (s_b1 : Nat → Int32) (s_depths : Nat → Int32) : va_W := [(a0, .inr (4, [.ref q_depths, .ref q_figures, .ref q_times, .int s_pace, .int s_fade])), (b1, .inl (cA 1, 48, .inl s_b1)), (q_depths, .inl (cA 1, 48, .inl s_depths))]
theorem hn_X4_sweep_X4 : ∀ w ∈ u_ws RX4 TX4 5, w ∈ wsX4_sweep := by decide +kernel
theorem hw_X4_sweep_f9 : Cond.fieldLink RX4 9 "OrphanWave$Ocean" "depths" "[I" ∈ wsX4_sweep := by decide +kernel

def f_X4_sweep_89 (r4 : (Int32) → (Int32) → (Nat → Int32) → Option ((Int32) × (Nat → Int32))) (s_pace : Int32) (s_depths : Nat → Int32) (x2 : Int32) (x3 : Int32) (x4 : Int32) (s_b1 : Nat → Int32) : Option ((Int32) × (Nat → Int32)) :=
  pbr ((7 : Int32) ≤ x4)
    (plt (x3 + (1 : Int32) : Int32) (fun x3_2 => (
    r4 x2 x3_2 s_b1)))
    (pcl (f_X4_shorten x3 (x3 + (1 : Int32)) s_pace s_b1 s_depths) (fun (r_3, b1_4) => (
    pbr (r_3 = 0)
      (plt (x3 + (1 : Int32) : Int32) (fun x3_7 => (
      r4 x2 x3_7 b1_4)))
      (plt (x3 + (1 : Int32) : Int32) (fun x3_8 => (
      r4 (1 : Int32) x3_8 b1_4))))))

set_option maxRecDepth 100000 in
set_option maxHeartbeats 4000000 in
theorem k_X4_sweep_89 {p : Program} {l : Launch} {e : Env} {s : State} {m : MethodId} {args : Array Value} {below : List Frame} {meth : Method} {c : Code} {A : Nat → Prop} {D : va_G} {cA : Nat → ClassId} (C0 : MX p s m args meth c cX4_sweep 5 wsX4_sweep RX4 (some .boolean) D cA) (hA : ∀ q, s.heap.size ≤ q → A q) {a0 : Nat} {b1 : Nat} {q_depths : Nat} {q_figures : Nat} {q_times : Nat} {s_pace : Int32} {s_fade : Int32} {s_depths : Nat → Int32} {o_r : Int32} {o_b1 : Nat → Int32} {r4 : (Int32) → (Int32) → (Nat → Int32) → Option ((Int32) × (Nat → Int32))} (hr4 : ∀ (x2 : Int32) (x3 : Int32) (s_b1 : Nat → Int32), r4 x2 x3 s_b1 = some (o_r, o_b1) → ∀ (H : Heap) (locs : List Loc), va_P D vwCl (w_X4_sweep a0 b1 q_depths q_figures q_times cA s_pace s_fade s_b1 s_depths) H → va_D A (w_X4_sweep a0 b1 q_depths q_figures q_times cA s_pace s_fade s_b1 s_depths) → va_S A s.heap H locs → ∀ ls : Array Slot, lv_has ls 5 [(0, .ref a0), (1, .ref b1), (2, .int x2), (3, .int x3)] → W p l e rm_X4_sweep s m args below meth c H locs 0 0 (MQ below (CQ D (some (.int o_r)) (w_X4_sweep a0 b1 q_depths q_figures q_times cA s_pace s_fade o_b1 s_depths) A) args s 0 0 A) (F0 m 4 ls [])) : ∀ (x2 : Int32) (x3 : Int32) (x4 : Int32) (s_b1 : Nat → Int32), f_X4_sweep_89 r4 s_pace s_depths x2 x3 x4 s_b1 = some (o_r, o_b1) → ∀ (H : Heap) (locs : List Loc), va_P D vwCl (w_X4_sweep a0 b1 q_depths q_figures q_times cA s_pace s_fade s_b1 s_depths) H → va_D A (w_X4_sweep a0 b1 q_depths q_figures q_times cA s_pace s_fade s_b1 s_depths) → va_S A s.heap H locs → ∀ ls : Array Slot, lv_has ls 5 [(0, .ref a0), (1, .ref b1), (2, .int x2), (3, .int x3), (4, .int x4)] → W p l e rm_X4_sweep s m args below meth c H locs 0 0 (MQ below (CQ D (some (.int o_r)) (w_X4_sweep a0 b1 q_depths q_figures q_times cA s_pace s_fade o_b1 s_depths) A) args s 0 0 A) (F0 m 89 ls []) := by
  obtain ⟨hx, hb, hml, hown, hts, hr, hlocks, hX⟩ := C0
  have hK := hX.1
  have hN := hX.2
  intro x2 x3 x4 s_b1 hf H locs hP hD hS ls hl
  unfold f_X4_sweep_89 at hf
  refine lv_iload hx hb dX4_sweep_89 (lv_at hl 4 rfl) ?_
  refine lv_bipush (v := (7 : Int32)) hx hb dX4_sweep_91 (by decide) ?_
  refine lv_icmp_ge (tgt := 110) hx hb dX4_sweep_93 (by decide) (fun c_1 => ?_) (fun c_1 => ?_)
  · have hf := pbr_t c_1 hf
    obtain ⟨x3_2, ex3_2⟩ : ∃ z : Int32, z = x3 + (1 : Int32) := ⟨_, rfl⟩
    have hf := plt_e ex3_2 hf
    refine lv_iinc (v := x3_2) (lv' := [(3, .int x3_2), (0, .ref a0), (1, .ref b1), (2, .int x2), (4, .int x4)]) hx hb dX4_sweep_110 hl (k := 3) rfl (by rw [ex3_2]; rfl) (by decide) rfl (fun ls hl => ?_)
    refine lv_goto (tgt := 4) hx hb dX4_sweep_113 (by decide) ?_
    exact hr4 x2 x3_2 s_b1 hf _ _ hP hD hS ls (lv_sub hl [1, 2, 3, 0] rfl)
  have hf := pbr_f c_1 hf
  refine lv_aload_n hx hb dX4_sweep_96 rfl (lv_at hl 0 rfl) ?_
  refine lv_aload_n hx hb dX4_sweep_97 rfl (lv_at hl 1 rfl) ?_
  refine lv_iload_n hx hb dX4_sweep_98 rfl (lv_at hl 3 rfl) ?_
  refine lv_iload_n hx hb dX4_sweep_99 rfl (lv_at hl 3 rfl) ?_
  refine lv_iconst (v := (1 : Int32)) hx hb dX4_sweep_100 (by decide) ?_
  refine lv_iadd hx hb dX4_sweep_101 ?_
  obtain ⟨⟨r_3, b1_4⟩, hc_5, hf⟩ := pcl_e hf
  refine m_callV2 (As := [.ref b1, .int x3, .int (x3 + (1 : Int32))]) (rest := []) ⟨hx, hb, hml, hown, hts⟩ hX (ct_X4_shorten l D cA x3 (x3 + (1 : Int32)) a0 b1 q_depths q_figures q_times s_pace s_fade s_b1 s_depths r_3 b1_4 hc_5) (cwV 3 hts gX4_sweep_X4_shorten rfl rfl rfl (by decide +kernel) ⟨Nat.le_of_ble_eq_true rfl, Nat.le_of_ble_eq_true rfl⟩) hP hD hS hA [0, 1, 2] [] 3 (by decide) rfl rfl (WS' := (w_X4_sweep a0 b1 q_depths q_figures q_times cA s_pace s_fade b1_4 s_depths)) (WR := []) rfl rfl rfl rfl (by decide) (by decide) 0 4 rfl rfl rfl hl.1 rfl (st' := [.int r_3]) rfl (Nat.le_of_ble_eq_true rfl) ⟨Nat.zero_le _, Nat.zero_le _⟩ dX4_sweep_102 (fun H locs hP hD hS => ?_)
  refine lv_if_eq (tgt := 110) hx hb dX4_sweep_105 (by decide) (fun c_6 => ?_) (fun c_6 => ?_)
  · have hf := pbr_t c_6 hf
    obtain ⟨x3_7, ex3_7⟩ : ∃ z : Int32, z = x3 + (1 : Int32) := ⟨_, rfl⟩
    have hf := plt_e ex3_7 hf
    refine lv_iinc (v := x3_7) (lv' := [(3, .int x3_7), (0, .ref a0), (1, .ref b1), (2, .int x2), (4, .int x4)]) hx hb dX4_sweep_110 hl (k := 3) rfl (by rw [ex3_7]; rfl) (by decide) rfl (fun ls hl => ?_)
    refine lv_goto (tgt := 4) hx hb dX4_sweep_113 (by decide) ?_
    exact hr4 x2 x3_7 b1_4 hf _ _ hP hD hS ls (lv_sub hl [1, 2, 3, 0] rfl)
  have hf := pbr_f c_6 hf
  refine lv_iconst (v := (1 : Int32)) hx hb dX4_sweep_108 (by decide) ?_
  refine lv_istore_n (lv' := [(2, .int (1 : Int32)), (0, .ref a0), (1, .ref b1), (3, .int x3), (4, .int x4)]) hx hb dX4_sweep_109 rfl hl (by decide) rfl (fun ls hl => ?_)
  obtain ⟨x3_8, ex3_8⟩ : ∃ z : Int32, z = x3 + (1 : Int32) := ⟨_, rfl⟩
  have hf := plt_e ex3_8 hf
  refine lv_iinc (v := x3_8) (lv' := [(3, .int x3_8), (2, .int (1 : Int32)), (0, .ref a0), (1, .ref b1), (4, .int x4)]) hx hb dX4_sweep_110 hl (k := 3) rfl (by rw [ex3_8]; rfl) (by decide) rfl (fun ls hl => ?_)
  refine lv_goto (tgt := 4) hx hb dX4_sweep_113 (by decide) ?_
  exact hr4 (1 : Int32) x3_8 b1_4 hf _ _ hP hD hS ls (lv_sub hl [2, 3, 1, 0] rfl)

def f_X4_sweep_70 (r4 : (Int32) → (Int32) → (Nat → Int32) → Option ((Int32) × (Nat → Int32))) (s_pace : Int32) (s_depths : Nat → Int32) (x2 : Int32) (x3 : Int32) (x4 : Int32) (s_b1 : Nat → Int32) : Option ((Int32) × (Nat → Int32)) :=
  pbr (x4 ≤ 0)
    (f_X4_sweep_89 r4 s_pace s_depths x2 x3 x4 s_b1)
    (pcl (f_X4_shorten x3 (x3 - (1 : Int32)) s_pace s_b1 s_depths) (fun (r_2, b1_3) => (
    pbr (r_2 = 0)
      (f_X4_sweep_89 r4 s_pace s_depths x2 x3 x4 b1_3)
      (f_X4_sweep_89 r4 s_pace s_depths (1 : Int32) x3 x4 b1_3))))

set_option maxRecDepth 100000 in
set_option maxHeartbeats 4000000 in
theorem k_X4_sweep_70 {p : Program} {l : Launch} {e : Env} {s : State} {m : MethodId} {args : Array Value} {below : List Frame} {meth : Method} {c : Code} {A : Nat → Prop} {D : va_G} {cA : Nat → ClassId} (C0 : MX p s m args meth c cX4_sweep 5 wsX4_sweep RX4 (some .boolean) D cA) (hA : ∀ q, s.heap.size ≤ q → A q) {a0 : Nat} {b1 : Nat} {q_depths : Nat} {q_figures : Nat} {q_times : Nat} {s_pace : Int32} {s_fade : Int32} {s_depths : Nat → Int32} {o_r : Int32} {o_b1 : Nat → Int32} {r4 : (Int32) → (Int32) → (Nat → Int32) → Option ((Int32) × (Nat → Int32))} (hr4 : ∀ (x2 : Int32) (x3 : Int32) (s_b1 : Nat → Int32), r4 x2 x3 s_b1 = some (o_r, o_b1) → ∀ (H : Heap) (locs : List Loc), va_P D vwCl (w_X4_sweep a0 b1 q_depths q_figures q_times cA s_pace s_fade s_b1 s_depths) H → va_D A (w_X4_sweep a0 b1 q_depths q_figures q_times cA s_pace s_fade s_b1 s_depths) → va_S A s.heap H locs → ∀ ls : Array Slot, lv_has ls 5 [(0, .ref a0), (1, .ref b1), (2, .int x2), (3, .int x3)] → W p l e rm_X4_sweep s m args below meth c H locs 0 0 (MQ below (CQ D (some (.int o_r)) (w_X4_sweep a0 b1 q_depths q_figures q_times cA s_pace s_fade o_b1 s_depths) A) args s 0 0 A) (F0 m 4 ls [])) : ∀ (x2 : Int32) (x3 : Int32) (x4 : Int32) (s_b1 : Nat → Int32), f_X4_sweep_70 r4 s_pace s_depths x2 x3 x4 s_b1 = some (o_r, o_b1) → ∀ (H : Heap) (locs : List Loc), va_P D vwCl (w_X4_sweep a0 b1 q_depths q_figures q_times cA s_pace s_fade s_b1 s_depths) H → va_D A (w_X4_sweep a0 b1 q_depths q_figures q_times cA s_pace s_fade s_b1 s_depths) → va_S A s.heap H locs → ∀ ls : Array Slot, lv_has ls 5 [(0, .ref a0), (1, .ref b1), (2, .int x2), (3, .int x3), (4, .int x4)] → W p l e rm_X4_sweep s m args below meth c H locs 0 0 (MQ below (CQ D (some (.int o_r)) (w_X4_sweep a0 b1 q_depths q_figures q_times cA s_pace s_fade o_b1 s_depths) A) args s 0 0 A) (F0 m 70 ls []) := by
  obtain ⟨hx, hb, hml, hown, hts, hr, hlocks, hX⟩ := C0
  have hK := hX.1
  have hN := hX.2
  intro x2 x3 x4 s_b1 hf H locs hP hD hS ls hl
  unfold f_X4_sweep_70 at hf
  refine lv_iload hx hb dX4_sweep_70 (lv_at hl 4 rfl) ?_
  refine lv_if_le (tgt := 89) hx hb dX4_sweep_72 (by decide) (fun c_1 => ?_) (fun c_1 => ?_)
  · have hf := pbr_t c_1 hf
    exact k_X4_sweep_89 ⟨hx, hb, hml, hown, hts, hr, hlocks, hX⟩ hA hr4 x2 x3 x4 s_b1 hf _ _ hP hD hS ls (lv_sub hl [0, 1, 2, 3, 4] rfl)
  have hf := pbr_f c_1 hf
  refine lv_aload_n hx hb dX4_sweep_75 rfl (lv_at hl 0 rfl) ?_
  refine lv_aload_n hx hb dX4_sweep_76 rfl (lv_at hl 1 rfl) ?_
  refine lv_iload_n hx hb dX4_sweep_77 rfl (lv_at hl 3 rfl) ?_
  refine lv_iload_n hx hb dX4_sweep_78 rfl (lv_at hl 3 rfl) ?_
  refine lv_iconst (v := (1 : Int32)) hx hb dX4_sweep_79 (by decide) ?_
  refine lv_isub hx hb dX4_sweep_80 ?_
  obtain ⟨⟨r_2, b1_3⟩, hc_4, hf⟩ := pcl_e hf
  refine m_callV2 (As := [.ref b1, .int x3, .int (x3 - (1 : Int32))]) (rest := []) ⟨hx, hb, hml, hown, hts⟩ hX (ct_X4_shorten l D cA x3 (x3 - (1 : Int32)) a0 b1 q_depths q_figures q_times s_pace s_fade s_b1 s_depths r_2 b1_3 hc_4) (cwV 3 hts gX4_sweep_X4_shorten rfl rfl rfl (by decide +kernel) ⟨Nat.le_of_ble_eq_true rfl, Nat.le_of_ble_eq_true rfl⟩) hP hD hS hA [0, 1, 2] [] 3 (by decide) rfl rfl (WS' := (w_X4_sweep a0 b1 q_depths q_figures q_times cA s_pace s_fade b1_3 s_depths)) (WR := []) rfl rfl rfl rfl (by decide) (by decide) 0 4 rfl rfl rfl hl.1 rfl (st' := [.int r_2]) rfl (Nat.le_of_ble_eq_true rfl) ⟨Nat.zero_le _, Nat.zero_le _⟩ dX4_sweep_81 (fun H locs hP hD hS => ?_)
  refine lv_if_eq (tgt := 89) hx hb dX4_sweep_84 (by decide) (fun c_5 => ?_) (fun c_5 => ?_)
  · have hf := pbr_t c_5 hf
    exact k_X4_sweep_89 ⟨hx, hb, hml, hown, hts, hr, hlocks, hX⟩ hA hr4 x2 x3 x4 b1_3 hf _ _ hP hD hS ls (lv_sub hl [0, 1, 2, 3, 4] rfl)
  have hf := pbr_f c_5 hf
  refine lv_iconst (v := (1 : Int32)) hx hb dX4_sweep_87 (by decide) ?_
  refine lv_istore_n (lv' := [(2, .int (1 : Int32)), (0, .ref a0), (1, .ref b1), (3, .int x3), (4, .int x4)]) hx hb dX4_sweep_88 rfl hl (by decide) rfl (fun ls hl => ?_)
  exact k_X4_sweep_89 ⟨hx, hb, hml, hown, hts, hr, hlocks, hX⟩ hA hr4 (1 : Int32) x3 x4 b1_3 hf _ _ hP hD hS ls (lv_sub hl [1, 2, 0, 3, 4] rfl)

def f_X4_sweep_49 (r4 : (Int32) → (Int32) → (Nat → Int32) → Option ((Int32) × (Nat → Int32))) (s_pace : Int32) (s_depths : Nat → Int32) (x2 : Int32) (x3 : Int32) (x4 : Int32) (s_b1 : Nat → Int32) : Option ((Int32) × (Nat → Int32)) :=
  pbr ((40 : Int32) ≤ x3)
    (f_X4_sweep_70 r4 s_pace s_depths x2 x3 x4 s_b1)
    (pcl (f_X4_shorten x3 (x3 + (8 : Int32)) s_pace s_b1 s_depths) (fun (r_2, b1_3) => (
    pbr (r_2 = 0)
      (f_X4_sweep_70 r4 s_pace s_depths x2 x3 x4 b1_3)
      (f_X4_sweep_70 r4 s_pace s_depths (1 : Int32) x3 x4 b1_3))))

set_option maxRecDepth 100000 in
set_option maxHeartbeats 4000000 in
theorem k_X4_sweep_49 {p : Program} {l : Launch} {e : Env} {s : State} {m : MethodId} {args : Array Value} {below : List Frame} {meth : Method} {c : Code} {A : Nat → Prop} {D : va_G} {cA : Nat → ClassId} (C0 : MX p s m args meth c cX4_sweep 5 wsX4_sweep RX4 (some .boolean) D cA) (hA : ∀ q, s.heap.size ≤ q → A q) {a0 : Nat} {b1 : Nat} {q_depths : Nat} {q_figures : Nat} {q_times : Nat} {s_pace : Int32} {s_fade : Int32} {s_depths : Nat → Int32} {o_r : Int32} {o_b1 : Nat → Int32} {r4 : (Int32) → (Int32) → (Nat → Int32) → Option ((Int32) × (Nat → Int32))} (hr4 : ∀ (x2 : Int32) (x3 : Int32) (s_b1 : Nat → Int32), r4 x2 x3 s_b1 = some (o_r, o_b1) → ∀ (H : Heap) (locs : List Loc), va_P D vwCl (w_X4_sweep a0 b1 q_depths q_figures q_times cA s_pace s_fade s_b1 s_depths) H → va_D A (w_X4_sweep a0 b1 q_depths q_figures q_times cA s_pace s_fade s_b1 s_depths) → va_S A s.heap H locs → ∀ ls : Array Slot, lv_has ls 5 [(0, .ref a0), (1, .ref b1), (2, .int x2), (3, .int x3)] → W p l e rm_X4_sweep s m args below meth c H locs 0 0 (MQ below (CQ D (some (.int o_r)) (w_X4_sweep a0 b1 q_depths q_figures q_times cA s_pace s_fade o_b1 s_depths) A) args s 0 0 A) (F0 m 4 ls [])) : ∀ (x2 : Int32) (x3 : Int32) (x4 : Int32) (s_b1 : Nat → Int32), f_X4_sweep_49 r4 s_pace s_depths x2 x3 x4 s_b1 = some (o_r, o_b1) → ∀ (H : Heap) (locs : List Loc), va_P D vwCl (w_X4_sweep a0 b1 q_depths q_figures q_times cA s_pace s_fade s_b1 s_depths) H → va_D A (w_X4_sweep a0 b1 q_depths q_figures q_times cA s_pace s_fade s_b1 s_depths) → va_S A s.heap H locs → ∀ ls : Array Slot, lv_has ls 5 [(0, .ref a0), (1, .ref b1), (2, .int x2), (3, .int x3), (4, .int x4)] → W p l e rm_X4_sweep s m args below meth c H locs 0 0 (MQ below (CQ D (some (.int o_r)) (w_X4_sweep a0 b1 q_depths q_figures q_times cA s_pace s_fade o_b1 s_depths) A) args s 0 0 A) (F0 m 49 ls []) := by
  obtain ⟨hx, hb, hml, hown, hts, hr, hlocks, hX⟩ := C0
  have hK := hX.1
  have hN := hX.2
  intro x2 x3 x4 s_b1 hf H locs hP hD hS ls hl
  unfold f_X4_sweep_49 at hf
  refine lv_iload_n hx hb dX4_sweep_49 rfl (lv_at hl 3 rfl) ?_
  refine lv_bipush (v := (40 : Int32)) hx hb dX4_sweep_50 (by decide) ?_
  refine lv_icmp_ge (tgt := 70) hx hb dX4_sweep_52 (by decide) (fun c_1 => ?_) (fun c_1 => ?_)
  · have hf := pbr_t c_1 hf
    exact k_X4_sweep_70 ⟨hx, hb, hml, hown, hts, hr, hlocks, hX⟩ hA hr4 x2 x3 x4 s_b1 hf _ _ hP hD hS ls (lv_sub hl [0, 1, 2, 3, 4] rfl)
  have hf := pbr_f c_1 hf
  refine lv_aload_n hx hb dX4_sweep_55 rfl (lv_at hl 0 rfl) ?_
  refine lv_aload_n hx hb dX4_sweep_56 rfl (lv_at hl 1 rfl) ?_
  refine lv_iload_n hx hb dX4_sweep_57 rfl (lv_at hl 3 rfl) ?_
  refine lv_iload_n hx hb dX4_sweep_58 rfl (lv_at hl 3 rfl) ?_
  refine lv_bipush (v := (8 : Int32)) hx hb dX4_sweep_59 (by decide) ?_
  refine lv_iadd hx hb dX4_sweep_61 ?_
  obtain ⟨⟨r_2, b1_3⟩, hc_4, hf⟩ := pcl_e hf
  refine m_callV2 (As := [.ref b1, .int x3, .int (x3 + (8 : Int32))]) (rest := []) ⟨hx, hb, hml, hown, hts⟩ hX (ct_X4_shorten l D cA x3 (x3 + (8 : Int32)) a0 b1 q_depths q_figures q_times s_pace s_fade s_b1 s_depths r_2 b1_3 hc_4) (cwV 3 hts gX4_sweep_X4_shorten rfl rfl rfl (by decide +kernel) ⟨Nat.le_of_ble_eq_true rfl, Nat.le_of_ble_eq_true rfl⟩) hP hD hS hA [0, 1, 2] [] 3 (by decide) rfl rfl (WS' := (w_X4_sweep a0 b1 q_depths q_figures q_times cA s_pace s_fade b1_3 s_depths)) (WR := []) rfl rfl rfl rfl (by decide) (by decide) 0 4 rfl rfl rfl hl.1 rfl (st' := [.int r_2]) rfl (Nat.le_of_ble_eq_true rfl) ⟨Nat.zero_le _, Nat.zero_le _⟩ dX4_sweep_62 (fun H locs hP hD hS => ?_)
  refine lv_if_eq (tgt := 70) hx hb dX4_sweep_65 (by decide) (fun c_5 => ?_) (fun c_5 => ?_)
  · have hf := pbr_t c_5 hf
    exact k_X4_sweep_70 ⟨hx, hb, hml, hown, hts, hr, hlocks, hX⟩ hA hr4 x2 x3 x4 b1_3 hf _ _ hP hD hS ls (lv_sub hl [0, 1, 2, 3, 4] rfl)
  have hf := pbr_f c_5 hf
  refine lv_iconst (v := (1 : Int32)) hx hb dX4_sweep_68 (by decide) ?_
  refine lv_istore_n (lv' := [(2, .int (1 : Int32)), (0, .ref a0), (1, .ref b1), (3, .int x3), (4, .int x4)]) hx hb dX4_sweep_69 rfl hl (by decide) rfl (fun ls hl => ?_)
  exact k_X4_sweep_70 ⟨hx, hb, hml, hown, hts, hr, hlocks, hX⟩ hA hr4 (1 : Int32) x3 x4 b1_3 hf _ _ hP hD hS ls (lv_sub hl [1, 2, 0, 3, 4] rfl)

def f_X4_sweep_4 (s_pace : Int32) (s_depths : Nat → Int32) : Nat → (Int32) → (Int32) → (Nat → Int32) → Option ((Int32) × (Nat → Int32))
  | 0, _, _, _ => none
  | k + 1, x2, x3, s_b1 =>
    pbr ((48 : Int32) ≤ x3)
      (pgd (x2 = 0 ∨ x2 = 1) (
      some (x2, s_b1)))
      (pgd (pin x3 48) (
      pbr ((s_depths x3.toNatClampNeg) = 0)
        (plt (x3 + (1 : Int32) : Int32) (fun x3_11 => (
        (f_X4_sweep_4 s_pace s_depths k) x2 x3_11 s_b1)))
        (plt ((x3 - x3 / (8 : Int32) * (8 : Int32)) : Int32) (fun x4_5 => (
        pbr (x3 < (8 : Int32))
          (f_X4_sweep_49 (f_X4_sweep_4 s_pace s_depths k) s_pace s_depths x2 x3 x4_5 s_b1)
          (pcl (f_X4_shorten x3 (x3 - (8 : Int32)) s_pace s_b1 s_depths) (fun (r_7, b1_8) => (
          pbr (r_7 = 0)
            (f_X4_sweep_49 (f_X4_sweep_4 s_pace s_depths k) s_pace s_depths x2 x3 x4_5 b1_8)
            (f_X4_sweep_49 (f_X4_sweep_4 s_pace s_depths k) s_pace s_depths (1 : Int32) x3 x4_5 b1_8)))))))))

set_option maxRecDepth 100000 in
set_option maxHeartbeats 4000000 in
theorem k_X4_sweep_4 {p : Program} {l : Launch} {e : Env} {s : State} {m : MethodId} {args : Array Value} {below : List Frame} {meth : Method} {c : Code} {A : Nat → Prop} {D : va_G} {cA : Nat → ClassId} (C0 : MX p s m args meth c cX4_sweep 5 wsX4_sweep RX4 (some .boolean) D cA) (hA : ∀ q, s.heap.size ≤ q → A q) {a0 : Nat} {b1 : Nat} {q_depths : Nat} {q_figures : Nat} {q_times : Nat} {s_pace : Int32} {s_fade : Int32} {s_depths : Nat → Int32} {o_r : Int32} {o_b1 : Nat → Int32} : ∀ (k : Nat) (x2 : Int32) (x3 : Int32) (s_b1 : Nat → Int32), f_X4_sweep_4 s_pace s_depths k x2 x3 s_b1 = some (o_r, o_b1) → ∀ (H : Heap) (locs : List Loc), va_P D vwCl (w_X4_sweep a0 b1 q_depths q_figures q_times cA s_pace s_fade s_b1 s_depths) H → va_D A (w_X4_sweep a0 b1 q_depths q_figures q_times cA s_pace s_fade s_b1 s_depths) → va_S A s.heap H locs → ∀ ls : Array Slot, lv_has ls 5 [(0, .ref a0), (1, .ref b1), (2, .int x2), (3, .int x3)] → W p l e rm_X4_sweep s m args below meth c H locs 0 0 (MQ below (CQ D (some (.int o_r)) (w_X4_sweep a0 b1 q_depths q_figures q_times cA s_pace s_fade o_b1 s_depths) A) args s 0 0 A) (F0 m 4 ls []) := by
  obtain ⟨hx, hb, hml, hown, hts, hr, hlocks, hX⟩ := C0
  have hK := hX.1
  have hN := hX.2
  intro k
  induction k with
  | zero =>
    intro x2 x3 s_b1 hf
    cases hf
  | succ k ih =>
    intro x2 x3 s_b1 hf H locs hP hD hS ls hl
    rw [f_X4_sweep_4] at hf
    refine lv_iload_n hx hb dX4_sweep_4 rfl (lv_at hl 3 rfl) ?_
    refine lv_bipush (v := (48 : Int32)) hx hb dX4_sweep_5 (by decide) ?_
    refine lv_icmp_ge (tgt := 116) hx hb dX4_sweep_7 (by decide) (fun c_1 => ?_) (fun c_1 => ?_)
    · have hf := pbr_t c_1 hf
      refine lv_iload_n hx hb dX4_sweep_116 rfl (lv_at hl 2 rfl) ?_
      obtain ⟨g_2, hf⟩ := pgd_e hf
      obtain ⟨rfl, rfl⟩ := pe2 hf
      exact m_zret g_2 hx hb hr hlocks hP hS dX4_sweep_117
    have hf := pbr_f c_1 hf
    refine lv_aload_n hx hb dX4_sweep_10 rfl (lv_at hl 0 rfl) ?_
    refine va_get (D := D) (ci := 4) (v := .ref q_depths) (C := RX4) (T := TX4) (N := 5) hx hb hts hn_X4_sweep_X4 hown hK hP 0 rfl rfl 0 (by decide) (hts _ hw_X4_sweep_f9) (fun _ h9 => h9) rfl dX4_sweep_11 ?_
    refine lv_iload_n hx hb dX4_sweep_14 rfl (lv_at hl 3 rfl) ?_
    obtain ⟨g_3, hf⟩ := pgd_e hf
    refine va_iald hx hb hK hP 2 1 rfl rfl g_3 dX4_sweep_15 ?_
    refine lv_if_ne (tgt := 22) hx hb dX4_sweep_16 (by decide) (fun c_4 => ?_) (fun c_4 => ?_)
    · have hf := pbr_f c_4 hf
      refine lv_iload_n hx hb dX4_sweep_22 rfl (lv_at hl 3 rfl) ?_
      refine lv_bipush (v := (8 : Int32)) hx hb dX4_sweep_23 (by decide) ?_
      refine lv_irem hx hb dX4_sweep_25 (by decide) ?_
      refine lv_topi (fun x4_5 ex4_5 => ?_)
      have hf := plt_e ex4_5 hf
      refine lv_istore (lv' := [(4, .int x4_5), (0, .ref a0), (1, .ref b1), (2, .int x2), (3, .int x3)]) hx hb dX4_sweep_26 hl (by decide) rfl (fun ls hl => ?_)
      refine lv_iload_n hx hb dX4_sweep_28 rfl (lv_at hl 4 rfl) ?_
      refine lv_bipush (v := (8 : Int32)) hx hb dX4_sweep_29 (by decide) ?_
      refine lv_icmp_lt (tgt := 49) hx hb dX4_sweep_31 (by decide) (fun c_6 => ?_) (fun c_6 => ?_)
      · have hf := pbr_t c_6 hf
        exact k_X4_sweep_49 ⟨hx, hb, hml, hown, hts, hr, hlocks, hX⟩ hA ih x2 x3 x4_5 s_b1 hf _ _ hP hD hS ls (lv_sub hl [1, 2, 3, 4, 0] rfl)
      have hf := pbr_f c_6 hf
      refine lv_aload_n hx hb dX4_sweep_34 rfl (lv_at hl 1 rfl) ?_
      refine lv_aload_n hx hb dX4_sweep_35 rfl (lv_at hl 2 rfl) ?_
      refine lv_iload_n hx hb dX4_sweep_36 rfl (lv_at hl 4 rfl) ?_
      refine lv_iload_n hx hb dX4_sweep_37 rfl (lv_at hl 4 rfl) ?_
      refine lv_bipush (v := (8 : Int32)) hx hb dX4_sweep_38 (by decide) ?_
      refine lv_isub hx hb dX4_sweep_40 ?_
      obtain ⟨⟨r_7, b1_8⟩, hc_9, hf⟩ := pcl_e hf
      refine m_callV2 (As := [.ref b1, .int x3, .int (x3 - (8 : Int32))]) (rest := []) ⟨hx, hb, hml, hown, hts⟩ hX (ct_X4_shorten l D cA x3 (x3 - (8 : Int32)) a0 b1 q_depths q_figures q_times s_pace s_fade s_b1 s_depths r_7 b1_8 hc_9) (cwV 3 hts gX4_sweep_X4_shorten rfl rfl rfl (by decide +kernel) ⟨Nat.le_of_ble_eq_true rfl, Nat.le_of_ble_eq_true rfl⟩) hP hD hS hA [0, 1, 2] [] 3 (by decide) rfl rfl (WS' := (w_X4_sweep a0 b1 q_depths q_figures q_times cA s_pace s_fade b1_8 s_depths)) (WR := []) rfl rfl rfl rfl (by decide) (by decide) 0 4 rfl rfl rfl hl.1 rfl (st' := [.int r_7]) rfl (Nat.le_of_ble_eq_true rfl) ⟨Nat.zero_le _, Nat.zero_le _⟩ dX4_sweep_41 (fun H locs hP hD hS => ?_)
      refine lv_if_eq (tgt := 49) hx hb dX4_sweep_44 (by decide) (fun c_10 => ?_) (fun c_10 => ?_)
      · have hf := pbr_t c_10 hf
        exact k_X4_sweep_49 ⟨hx, hb, hml, hown, hts, hr, hlocks, hX⟩ hA ih x2 x3 x4_5 b1_8 hf _ _ hP hD hS ls (lv_sub hl [1, 2, 3, 4, 0] rfl)
      have hf := pbr_f c_10 hf
      refine lv_iconst (v := (1 : Int32)) hx hb dX4_sweep_47 (by decide) ?_
      refine lv_istore_n (lv' := [(2, .int (1 : Int32)), (4, .int x4_5), (0, .ref a0), (1, .ref b1), (3, .int x3)]) hx hb dX4_sweep_48 rfl hl (by decide) rfl (fun ls hl => ?_)
      exact k_X4_sweep_49 ⟨hx, hb, hml, hown, hts, hr, hlocks, hX⟩ hA ih (1 : Int32) x3 x4_5 b1_8 hf _ _ hP hD hS ls (lv_sub hl [2, 3, 0, 4, 1] rfl)
    have hf := pbr_t c_4 hf
    refine lv_goto (tgt := 110) hx hb dX4_sweep_19 (by decide) ?_
    obtain ⟨x3_11, ex3_11⟩ : ∃ z : Int32, z = x3 + (1 : Int32) := ⟨_, rfl⟩
    have hf := plt_e ex3_11 hf
    refine lv_iinc (v := x3_11) (lv' := [(3, .int x3_11), (0, .ref a0), (1, .ref b1), (2, .int x2)]) hx hb dX4_sweep_110 hl (k := 3) rfl (by rw [ex3_11]; rfl) (by decide) rfl (fun ls hl => ?_)
    refine lv_goto (tgt := 4) hx hb dX4_sweep_113 (by decide) ?_
    exact ih x2 x3_11 s_b1 hf _ _ hP hD hS ls (lv_sub hl [1, 2, 3, 0] rfl)

def f_X4_sweep (s_pace : Int32) (s_b1 : Nat → Int32) (s_depths : Nat → Int32) : Option ((Int32) × (Nat → Int32)) :=
  f_X4_sweep_4 s_pace s_depths FU (0 : Int32) (0 : Int32) s_b1

set_option maxRecDepth 100000 in
set_option maxHeartbeats 4000000 in
theorem ct_X4_sweep (l : Launch) (D : va_G) (cA : Nat → ClassId) (a0 : Nat) (b1 : Nat) (q_depths : Nat) (q_figures : Nat) (q_times : Nat) (s_pace : Int32) (s_fade : Int32) (s_b1 : Nat → Int32) (s_depths : Nat → Int32) (o_r : Int32) (o_b1 : Nat → Int32) (hf : f_X4_sweep s_pace s_b1 s_depths = some (o_r, o_b1)) : CT l yX4_sweep wsX4_sweep rm_X4_sweep D cA [.ref a0, .ref b1] (w_X4_sweep a0 b1 q_depths q_figures q_times cA s_pace s_fade s_b1 s_depths) (w_X4_sweep a0 b1 q_depths q_figures q_times cA s_pace s_fade o_b1 s_depths) (some (.int o_r)) := by
  refine CT.ofW (cc := cX4_sweep) (maxL := 5) (ret := (some .boolean)) (by decide +kernel) rfl (Nat.le_of_ble_eq_true rfl) ?_
  intro p e s m below meth c A C0 hA hP hD ls hl
  have C0 : MX p s m [.ref a0, .ref b1].toArray meth c cX4_sweep 5 wsX4_sweep RX4 (some .boolean) D cA := C0
  have hl : lv_has ls 5 [(0, .ref a0), (1, .ref b1)] := hl
  obtain ⟨hx, hb, hml, hown, hts, hr, hlocks, hX⟩ := id C0
  have hK := hX.1
  have hN := hX.2
  have hS : va_S A s.heap s.heap [] := va_S.rf
  unfold f_X4_sweep at hf
  refine lv_iconst (v := (0 : Int32)) hx hb dX4_sweep_0 (by decide) ?_
  refine lv_istore_n (lv' := [(2, .int (0 : Int32)), (0, .ref a0), (1, .ref b1)]) hx hb dX4_sweep_1 rfl hl (by decide) rfl (fun ls hl => ?_)
  refine lv_iconst (v := (0 : Int32)) hx hb dX4_sweep_2 (by decide) ?_
  refine lv_istore_n (lv' := [(3, .int (0 : Int32)), (2, .int (0 : Int32)), (0, .ref a0), (1, .ref b1)]) hx hb dX4_sweep_3 rfl hl (by decide) rfl (fun ls hl => ?_)
  exact k_X4_sweep_4 C0 hA FU (0 : Int32) (0 : Int32) s_b1 hf _ _ hP hD hS ls (lv_sub hl [2, 3, 1, 0] rfl)
