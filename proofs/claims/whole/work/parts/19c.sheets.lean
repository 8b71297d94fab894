/-! ===== OrphanWave$Sheets.companions(I)I ===== -/
abbrev rm_X6_companions : Room := { frames := 0, cells := 0, slots := 0, locals := 0 }
abbrev w_X6_companions (a0 : Nat) (q_olds : Nat) (q_youngs : Nat) (q_marshes : Nat) (cA : Nat → ClassId) (s_count : Int32) (s_olds : Nat → Int32) (s_youngs : Nat → Int32) : va_W := [(a0, .inr (6, [.ref q_marshes, .ref q_olds, .ref q_youngs, .int s_count])), (q_olds, .inl (cA 1, 12, .inl s_olds)), (q_youngs, .inl (cA 1, 12, .inl s_youngs))]
theorem hn_X6_companions_X6 : ∀ w ∈ u_ws RX6 TX6 4, w ∈ wsX6_companions := by decide +kernel
theorem hw_X6_companions_f21 : Cond.fieldLink RX6 21 "OrphanWave$Sheets" "count" "I" ∈ wsX6_companions := by decide +kernel
theorem hw_X6_companions_f15 : Cond.fieldLink RX6 15 "OrphanWave$Sheets" "olds" "[I" ∈ wsX6_companions := by decide +kernel
theorem hw_X6_companions_f18 : Cond.fieldLink RX6 18 "OrphanWave$Sheets" "youngs" "[I" ∈ wsX6_companions := by decide +kernel

def f_X6_companions_4 (s_count : Int32) (s_olds : Nat → Int32) (s_youngs : Nat → Int32) (x1 : Int32) : Nat → (Int32) → (Int32) → Option ((Int32))
  | 0, _, _ => none
  | k + 1, x2, x3 =>
    pbr (s_count ≤ x3)
      (some (x2))
      (pgd (pin x3 12) (
      pgd (pin x1 12) (
      pbr ((s_youngs x1.toNatClampNeg) < (s_olds x3.toNatClampNeg))
        (plt (x3 + (1 : Int32) : Int32) (fun x3_5 => (
        (f_X6_companions_4 s_count s_olds s_youngs x1 k) x2 x3_5)))
        (pbr ((s_youngs x3.toNatClampNeg) < (s_olds x1.toNatClampNeg))
          (plt (x3 + (1 : Int32) : Int32) (fun x3_7 => (
          (f_X6_companions_4 s_count s_olds s_youngs x1 k) x2 x3_7)))
          (plt (x2 + (1 : Int32) : Int32) (fun x2_8 => (
          plt (x3 + (1 : Int32) : Int32) (fun x3_9 => (
          (f_X6_companions_4 s_count s_olds s_youngs x1 k) x2_8 x3_9)))))))))

set_option maxRecDepth 100000 in
set_option maxHeartbeats 4000000 in
theorem k_X6_companions_4 {p : Program} {l : Launch} {e : Env} {s : State} {m : MethodId} {args : Array Value} {below : List Frame} {meth : Method} {c : Code} {A : Nat → Prop} {D : va_G} {cA : Nat → ClassId} (C0 : MX p s m args meth c cX6_companions 4 wsX6_companions RX6 (some .int) D cA) (hA : ∀ q, s.heap.size ≤ q → A q) {a0 : Nat} {q_olds : Nat} {q_youngs : Nat} {q_marshes : Nat} {s_count : Int32} {s_olds : Nat → Int32} {s_youngs : Nat → Int32} {x1 : Int32} {o_r : Int32} : ∀ (k : Nat) (x2 : Int32) (x3 : Int32), f_X6_companions_4 s_count s_olds s_youngs x1 k x2 x3 = some o_r → ∀ (H : Heap) (locs : List Loc), va_P D vwCl (w_X6_companions a0 q_olds q_youngs q_marshes cA s_count s_olds s_youngs) H → va_D A (w_X6_companions a0 q_olds q_youngs q_marshes cA s_count s_olds s_youngs) → va_S A s.heap H locs → ∀ ls : Array Slot, lv_has ls 4 [(0, .ref a0), (1, .int x1), (2, .int x2), (3, .int x3)] → W p l e rm_X6_companions s m args below meth c H locs 0 0 (MQ below (CQ D (some (.int o_r)) (w_X6_companions a0 q_olds q_youngs q_marshes cA s_count s_olds s_youngs) A) args s 0 0 A) (F0 m 4 ls []) := by
  obtain ⟨hx, hb, hml, hown, hts, hr, hlocks, hX⟩ := C0
  have hK := hX.1
  have hN := hX.2
  intro k
  induction k with
  | zero =>
    intro x2 x3 hf
    cases hf
  | succ k ih =>
    intro x2 x3 hf H locs hP hD hS ls hl
    rw [f_X6_companions_4] at hf
    refine lv_iload_n hx hb dX6_companions_4 rfl (lv_at hl 3 rfl) ?_
    refine lv_aload_n hx hb dX6_companions_5 rfl (lv_at hl 0 rfl) ?_
    refine va_get (D := D) (ci := 6) (v := .int s_count) (C := RX6) (T := TX6) (N := 4) hx hb hts hn_X6_companions_X6 hown hK hP 0 rfl rfl 3 (by decide) (hts _ hw_X6_companions_f21) (fun _ h9 => h9) rfl dX6_companions_6 ?_
    refine lv_icmp_ge (tgt := 51) hx hb dX6_companions_9 (by decide) (fun c_1 => ?_) (fun c_1 => ?_)
    · have hf := pbr_t c_1 hf
      refine lv_iload_n hx hb dX6_companions_51 rfl (lv_at hl 2 rfl) ?_
      obtain rfl := pe1 hf
      exact m_iret hx hb hr hlocks hP hS dX6_companions_52
    have hf := pbr_f c_1 hf
    refine lv_aload_n hx hb dX6_companions_12 rfl (lv_at hl 0 rfl) ?_
    refine va_get (D := D) (ci := 6) (v := .ref q_olds) (C := RX6) (T := TX6) (N := 4) hx hb hts hn_X6_companions_X6 hown hK hP 0 rfl rfl 1 (by decide) (hts _ hw_X6_companions_f15) (fun _ h9 => h9) rfl dX6_companions_13 ?_
    refine lv_iload_n hx hb dX6_companions_16 rfl (lv_at hl 3 rfl) ?_
    obtain ⟨g_2, hf⟩ := pgd_e hf
    refine va_iald hx hb hK hP 1 1 rfl rfl g_2 dX6_companions_17 ?_
    refine lv_aload_n hx hb dX6_companions_18 rfl (lv_at hl 0 rfl) ?_
    refine va_get (D := D) (ci := 6) (v := .ref q_youngs) (C := RX6) (T := TX6) (N := 4) hx hb hts hn_X6_companions_X6 hown hK hP 0 rfl rfl 2 (by decide) (hts _ hw_X6_companions_f18) (fun _ h9 => h9) rfl dX6_companions_19 ?_
    refine lv_iload_n hx hb dX6_companions_22 rfl (lv_at hl 1 rfl) ?_
    obtain ⟨g_3, hf⟩ := pgd_e hf
    refine va_iald hx hb hK hP 2 1 rfl rfl g_3 dX6_companions_23 ?_
    refine lv_icmp_gt (tgt := 45) hx hb dX6_companions_24 (by decide) (fun c_4 => ?_) (fun c_4 => ?_)
    · have hf := pbr_t c_4 hf
      obtain ⟨x3_5, ex3_5⟩ : ∃ z : Int32, z = x3 + (1 : Int32) := ⟨_, rfl⟩
      have hf := plt_e ex3_5 hf
      refine lv_iinc (v := x3_5) (lv' := [(3, .int x3_5), (0, .ref a0), (1, .int x1), (2, .int x2)]) hx hb dX6_companions_45 hl (k := 3) rfl (by rw [ex3_5]; rfl) (by decide) rfl (fun ls hl => ?_)
      refine lv_goto (tgt := 4) hx hb dX6_companions_48 (by decide) ?_
      exact ih x2 x3_5 hf _ _ hP hD hS ls (lv_sub hl [1, 2, 3, 0] rfl)
    have hf := pbr_f c_4 hf
    refine lv_aload_n hx hb dX6_companions_27 rfl (lv_at hl 0 rfl) ?_
    refine va_get (D := D) (ci := 6) (v := .ref q_olds) (C := RX6) (T := TX6) (N := 4) hx hb hts hn_X6_companions_X6 hown hK hP 0 rfl rfl 1 (by decide) (hts _ hw_X6_companions_f15) (fun _ h9 => h9) rfl dX6_companions_28 ?_
    refine lv_iload_n hx hb dX6_companions_31 rfl (lv_at hl 1 rfl) ?_
    refine va_iald hx hb hK hP 1 1 rfl rfl g_3 dX6_companions_32 ?_
    refine lv_aload_n hx hb dX6_companions_33 rfl (lv_at hl 0 rfl) ?_
    refine va_get (D := D) (ci := 6) (v := .ref q_youngs) (C := RX6) (T := TX6) (N := 4) hx hb hts hn_X6_companions_X6 hown hK hP 0 rfl rfl 2 (by decide) (hts _ hw_X6_companions_f18) (fun _ h9 => h9) rfl dX6_companions_34 ?_
    refine lv_iload_n hx hb dX6_companions_37 rfl (lv_at hl 3 rfl) ?_
    refine va_iald hx hb hK hP 2 1 rfl rfl g_2 dX6_companions_38 ?_
    refine lv_icmp_gt (tgt := 45) hx hb dX6_companions_39 (by decide) (fun c_6 => ?_) (fun c_6 => ?_)
    · have hf := pbr_t c_6 hf
      obtain ⟨x3_7, ex3_7⟩ : ∃ z : Int32, z = x3 + (1 : Int32) := ⟨_, rfl⟩
      have hf := plt_e ex3_7 hf
      refine lv_iinc (v := x3_7) (lv' := [(3, .int x3_7), (0, .ref a0), (1, .int x1), (2, .int x2)]) hx hb dX6_companions_45 hl (k := 3) rfl (by rw [ex3_7]; rfl) (by decide) rfl (fun ls hl => ?_)
      refine lv_goto (tgt := 4) hx hb dX6_companions_48 (by decide) ?_
      exact ih x2 x3_7 hf _ _ hP hD hS ls (lv_sub hl [1, 2, 3, 0] rfl)
    have hf := pbr_f c_6 hf
    obtain ⟨x2_8, ex2_8⟩ : ∃ z : Int32, z = x2 + (1 : Int32) := ⟨_, rfl⟩
    have hf := plt_e ex2_8 hf
    refine lv_iinc (v := x2_8) (lv' := [(2, .int x2_8), (0, .ref a0), (1, .int x1), (3, .int x3)]) hx hb dX6_companions_42 hl (k := 2) rfl (by rw [ex2_8]; rfl) (by decide) rfl (fun ls hl => ?_)
    obtain ⟨x3_9, ex3_9⟩ : ∃ z : Int32, z = x3 + (1 : Int32) := ⟨_, rfl⟩
    have hf := plt_e ex3_9 hf
    refine lv_iinc (v := x3_9) (lv' := [(3, .int x3_9), (2, .int x2_8), (0, .ref a0), (1, .int x1)]) hx hb dX6_companions_45 hl (k := 3) rfl (by rw [ex3_9]; rfl) (by decide) rfl (fun ls hl => ?_)
    refine lv_goto (tgt := 4) hx hb dX6_companions_48 (by decide) ?_
    exact ih x2_8 x3_9 hf _ _ hP hD hS ls (lv_sub hl [2, 3, 1, 0] rfl)

def f_X6_companions (x1 : Int32) (s_count : Int32) (s_olds : Nat → Int32) (s_youngs : Nat → Int32) : Option ((Int32)) :=
  f_X6_companions_4 s_count s_olds s_youngs x1 FU (0 : Int32) (0 : Int32)

set_option maxRecDepth 100000 in
set_option maxHeartbeats 4000000 in
theorem ct_X6_companions (l : Launch) (D : va_G) (cA : Nat → ClassId) (x1 : Int32) (a0 : Nat) (q_olds : Nat) (q_youngs : Nat) (q_marshes : Nat) (s_count : Int32) (s_olds : Nat → Int32) (s_youngs : Nat → Int32) (o_r : Int32) (hf : f_X6_companions x1 s_count s_olds s_youngs = some o_r) : CT l yX6_companions wsX6_companions rm_X6_companions D cA [.ref a0, .int x1] (w_X6_companions a0 q_olds q_youngs q_marshes cA s_count s_olds s_youngs) (w_X6_companions a0 q_olds q_youngs q_marshes cA s_count s_olds s_youngs) (some (.int o_r)) := by
  refine CT.ofW (cc := cX6_companions) (maxL := 4) (ret := (some .int)) (by decide +kernel) rfl (Nat.le_of_ble_eq_true rfl) ?_
  intro p e s m below meth c A C0 hA hP hD ls hl
  have C0 : MX p s m [.ref a0, .int x1].toArray meth c cX6_companions 4 wsX6_companions RX6 (some .int) D cA := C0
  have hl : lv_has ls 4 [(0, .ref a0), (1, .int x1)] := hl
  obtain ⟨hx, hb, hml, hown, hts, hr, hlocks, hX⟩ := id C0
  have hK := hX.1
  have hN := hX.2
  have hS : va_S A s.heap s.heap [] := va_S.rf
  unfold f_X6_companions at hf
  refine lv_iconst (v := (0 : Int32)) hx hb dX6_companions_0 (by decide) ?_
  refine lv_istore_n (lv' := [(2, .int (0 : Int32)), (0, .ref a0), (1, .int x1)]) hx hb dX6_companions_1 rfl hl (by decide) rfl (fun ls hl => ?_)
  refine lv_iconst (v := (0 : Int32)) hx hb dX6_companions_2 (by decide) ?_
  refine lv_istore_n (lv' := [(3, .int (0 : Int32)), (2, .int (0 : Int32)), (0, .ref a0), (1, .int x1)]) hx hb dX6_companions_3 rfl hl (by decide) rfl (fun ls hl => ?_)
  exact k_X6_companions_4 C0 hA FU (0 : Int32) (0 : Int32) hf _ _ hP hD hS ls (lv_sub hl [2, 3, 1, 0] rfl)
