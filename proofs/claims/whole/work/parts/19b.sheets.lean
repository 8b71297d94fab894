/-! ===== OrphanWave$Sheets.marshesOf(I)I ===== -/
abbrev rm_X6_marshesOf : Room := { frames := 0, cells := 0, slots := 0, locals := 0 }
abbrev w_X6_marshesOf (a0 : Nat) (q_marshes : Nat) (q_olds : Nat) (q_youngs : Nat) (cA : Nat → ClassId) (s_count : Int32) (s_marshes : Nat → Int32) : va_W := [(a0, .inr (6, [.ref q_marshes, .ref q_olds, .ref q_youngs, .int s_count])), (q_marshes, .inl (cA 1, 12, .inl s_marshes))]
theorem hn_X6_marshesOf_X6 : ∀ w ∈ u_ws RX6 TX6 4, w ∈ wsX6_marshesOf := by decide +kernel
theorem hw_X6_marshesOf_f21 : Cond.fieldLink RX6 21 "OrphanWave$Sheets" "count" "I" ∈ wsX6_marshesOf := by decide +kernel
theorem hw_X6_marshesOf_f9 : Cond.fieldLink RX6 9 "OrphanWave$Sheets" "marshes" "[I" ∈ wsX6_marshesOf := by decide +kernel

def f_X6_marshesOf_4 (s_count : Int32) (s_marshes : Nat → Int32) (x1 : Int32) : Nat → (Int32) → (Int32) → Option ((Int32))
  | 0, _, _ => none
  | k + 1, x2, x3 =>
    pbr (s_count ≤ x3)
      (some (x2))
      (pbr (((x1 >>> (x3 &&& 31)) &&& (1 : Int32)) = (1 : Int32))
        (pgd (pin x3 12) (
        plt ((x2 ||| ((1 : Int32) <<< ((s_marshes x3.toNatClampNeg) &&& 31))) : Int32) (fun x2_5 => (
        plt (x3 + (1 : Int32) : Int32) (fun x3_6 => (
        (f_X6_marshesOf_4 s_count s_marshes x1 k) x2_5 x3_6))))))
        (plt (x3 + (1 : Int32) : Int32) (fun x3_3 => (
        (f_X6_marshesOf_4 s_count s_marshes x1 k) x2 x3_3))))

set_option maxRecDepth 100000 in
set_option maxHeartbeats 4000000 in
theorem k_X6_marshesOf_4 {p : Program} {l : Launch} {e : Env} {s : State} {m : MethodId} {args : Array Value} {below : List Frame} {meth : Method} {c : Code} {A : Nat → Prop} {D : va_G} {cA : Nat → ClassId} (C0 : MX p s m args meth c cX6_marshesOf 4 wsX6_marshesOf RX6 (some .int) D cA) (hA : ∀ q, s.heap.size ≤ q → A q) {a0 : Nat} {q_marshes : Nat} {q_olds : Nat} {q_youngs : Nat} {s_count : Int32} {s_marshes : Nat → Int32} {x1 : Int32} {o_r : Int32} : ∀ (k : Nat) (x2 : Int32) (x3 : Int32), f_X6_marshesOf_4 s_count s_marshes x1 k x2 x3 = some o_r → ∀ (H : Heap) (locs : List Loc), va_P D vwCl (w_X6_marshesOf a0 q_marshes q_olds q_youngs cA s_count s_marshes) H → va_D A (w_X6_marshesOf a0 q_marshes q_olds q_youngs cA s_count s_marshes) → va_S A s.heap H locs → ∀ ls : Array Slot, lv_has ls 4 [(0, .ref a0), (1, .int x1), (2, .int x2), (3, .int x3)] → W p l e rm_X6_marshesOf s m args below meth c H locs 0 0 (MQ below (CQ D (some (.int o_r)) (w_X6_marshesOf a0 q_marshes q_olds q_youngs cA s_count s_marshes) A) args s 0 0 A) (F0 m 4 ls []) := by
  obtain ⟨hx, hb, hml, hown, hts, hr, hlocks, hX⟩ := C0
  have hK := hX.1
  have hN := hX.2
  intro k
  induction k with
  | zero =>
    intro x2 x3 hf
    cases hf
  | succ k ih =>
    intro x2 x3 hf H locs hP hD hS ls hl
    rw [f_X6_marshesOf_4] at hf
    refine lv_iload_n hx hb dX6_marshesOf_4 rfl (lv_at hl 3 rfl) ?_
    refine lv_aload_n hx hb dX6_marshesOf_5 rfl (lv_at hl 0 rfl) ?_
    refine va_get (D := D) (ci := 6) (v := .int s_count) (C := RX6) (T := TX6) (N := 4) hx hb hts hn_X6_marshesOf_X6 hown hK hP 0 rfl rfl 3 (by decide) (hts _ hw_X6_marshesOf_f21) (fun _ h9 => h9) rfl dX6_marshesOf_6 ?_
    refine lv_icmp_ge (tgt := 38) hx hb dX6_marshesOf_9 (by decide) (fun c_1 => ?_) (fun c_1 => ?_)
    · have hf := pbr_t c_1 hf
      refine lv_iload_n hx hb dX6_marshesOf_38 rfl (lv_at hl 2 rfl) ?_
      obtain rfl := pe1 hf
      exact m_iret hx hb hr hlocks hP hS dX6_marshesOf_39
    have hf := pbr_f c_1 hf
    refine lv_iload_n hx hb dX6_marshesOf_12 rfl (lv_at hl 1 rfl) ?_
    refine lv_iload_n hx hb dX6_marshesOf_13 rfl (lv_at hl 3 rfl) ?_
    refine lv_ishr hx hb dX6_marshesOf_14 ?_
    refine lv_iconst (v := (1 : Int32)) hx hb dX6_marshesOf_15 (by decide) ?_
    refine lv_iand hx hb dX6_marshesOf_16 ?_
    refine lv_iconst (v := (1 : Int32)) hx hb dX6_marshesOf_17 (by decide) ?_
    refine lv_icmp_ne (tgt := 32) hx hb dX6_marshesOf_18 (by decide) (fun c_2 => ?_) (fun c_2 => ?_)
    · have hf := pbr_f c_2 hf
      obtain ⟨x3_3, ex3_3⟩ : ∃ z : Int32, z = x3 + (1 : Int32) := ⟨_, rfl⟩
      have hf := plt_e ex3_3 hf
      refine lv_iinc (v := x3_3) (lv' := [(3, .int x3_3), (0, .ref a0), (1, .int x1), (2, .int x2)]) hx hb dX6_marshesOf_32 hl (k := 3) rfl (by rw [ex3_3]; rfl) (by decide) rfl (fun ls hl => ?_)
      refine lv_goto (tgt := 4) hx hb dX6_marshesOf_35 (by decide) ?_
      exact ih x2 x3_3 hf _ _ hP hD hS ls (lv_sub hl [1, 2, 3, 0] rfl)
    have hf := pbr_t c_2 hf
    refine lv_iload_n hx hb dX6_marshesOf_21 rfl (lv_at hl 2 rfl) ?_
    refine lv_iconst (v := (1 : Int32)) hx hb dX6_marshesOf_22 (by decide) ?_
    refine lv_aload_n hx hb dX6_marshesOf_23 rfl (lv_at hl 0 rfl) ?_
    refine va_get (D := D) (ci := 6) (v := .ref q_marshes) (C := RX6) (T := TX6) (N := 4) hx hb hts hn_X6_marshesOf_X6 hown hK hP 0 rfl rfl 0 (by decide) (hts _ hw_X6_marshesOf_f9) (fun _ h9 => h9) rfl dX6_marshesOf_24 ?_
    refine lv_iload_n hx hb dX6_marshesOf_27 rfl (lv_at hl 3 rfl) ?_
    obtain ⟨g_4, hf⟩ := pgd_e hf
    refine va_iald hx hb hK hP 1 1 rfl rfl g_4 dX6_marshesOf_28 ?_
    refine lv_ishl hx hb dX6_marshesOf_29 ?_
    refine lv_ior hx hb dX6_marshesOf_30 ?_
    refine lv_topi (fun x2_5 ex2_5 => ?_)
    have hf := plt_e ex2_5 hf
    refine lv_istore_n (lv' := [(2, .int x2_5), (0, .ref a0), (1, .int x1), (3, .int x3)]) hx hb dX6_marshesOf_31 rfl hl (by decide) rfl (fun ls hl => ?_)
    obtain ⟨x3_6, ex3_6⟩ : ∃ z : Int32, z = x3 + (1 : Int32) := ⟨_, rfl⟩
    have hf := plt_e ex3_6 hf
    refine lv_iinc (v := x3_6) (lv' := [(3, .int x3_6), (2, .int x2_5), (0, .ref a0), (1, .int x1)]) hx hb dX6_marshesOf_32 hl (k := 3) rfl (by rw [ex3_6]; rfl) (by decide) rfl (fun ls hl => ?_)
    refine lv_goto (tgt := 4) hx hb dX6_marshesOf_35 (by decide) ?_
    exact ih x2_5 x3_6 hf _ _ hP hD hS ls (lv_sub hl [2, 3, 1, 0] rfl)

def f_X6_marshesOf (x1 : Int32) (s_count : Int32) (s_marshes : Nat → Int32) : Option ((Int32)) :=
  f_X6_marshesOf_4 s_count s_marshes x1 FU (0 : Int32) (0 : Int32)

set_option maxRecDepth 100000 in
set_option maxHeartbeats 4000000 in
theorem ct_X6_marshesOf (l : Launch) (D : va_G) (cA : Nat → ClassId) (x1 : Int32) (a0 : Nat) (q_marshes : Nat) (q_olds : Nat) (q_youngs : Nat) (s_count : Int32) (s_marshes : Nat → Int32) (o_r : Int32) (hf : f_X6_marshesOf x1 s_count s_marshes = some o_r) : CT l yX6_marshesOf wsX6_marshesOf rm_X6_marshesOf D cA [.ref a0, .int x1] (w_X6_marshesOf a0 q_marshes q_olds q_youngs cA s_count s_marshes) (w_X6_marshesOf a0 q_marshes q_olds q_youngs cA s_count s_marshes) (some (.int o_r)) := by
  refine CT.ofW (cc := cX6_marshesOf) (maxL := 4) (ret := (some .int)) (by decide +kernel) rfl (Nat.le_of_ble_eq_true rfl) ?_
  intro p e s m below meth c A C0 hA hP hD ls hl
  have C0 : MX p s m [.ref a0, .int x1].toArray meth c cX6_marshesOf 4 wsX6_marshesOf RX6 (some .int) D cA := C0
  have hl : lv_has ls 4 [(0, .ref a0), (1, .int x1)] := hl
  obtain ⟨hx, hb, hml, hown, hts, hr, hlocks, hX⟩ := id C0
  have hK := hX.1
  have hN := hX.2
  have hS : va_S A s.heap s.heap [] := va_S.rf
  unfold f_X6_marshesOf at hf
  refine lv_iconst (v := (0 : Int32)) hx hb dX6_marshesOf_0 (by decide) ?_
  refine lv_istore_n (lv' := [(2, .int (0 : Int32)), (0, .ref a0), (1, .int x1)]) hx hb dX6_marshesOf_1 rfl hl (by decide) rfl (fun ls hl => ?_)
  refine lv_iconst (v := (0 : Int32)) hx hb dX6_marshesOf_2 (by decide) ?_
  refine lv_istore_n (lv' := [(3, .int (0 : Int32)), (2, .int (0 : Int32)), (0, .ref a0), (1, .int x1)]) hx hb dX6_marshesOf_3 rfl hl (by decide) rfl (fun ls hl => ?_)
  exact k_X6_marshesOf_4 C0 hA FU (0 : Int32) (0 : Int32) hf _ _ hP hD hS ls (lv_sub hl [2, 3, 1, 0] rfl)

/-! ===== OrphanWave$Sheets.marshesAt(I)I ===== -/
abbrev rm_X6_marshesAt : Room := { frames := 2, cells := 0, slots := 0, locals := 45 }
abbrev w_X6_marshesAt (a0 : Nat) (q_olds : Nat) (q_youngs : Nat) (q_marshes : Nat) (cA : Nat → ClassId) (s_count : Int32) (s_olds : Nat → Int32) (s_youngs : Nat → Int32) (s_marshes : Nat → Int32) : va_W := [(a0, .inr (6, [.ref q_marshes, .ref q_olds, .ref q_youngs, .int s_count])), (q_olds, .inl (cA 1, 12, .inl s_olds)), (q_youngs, .inl (cA 1, 12, .inl s_youngs)), (q_marshes, .inl (cA 1, 12, .inl s_marshes))]

def f_X6_marshesAt (x1 : Int32) (s_count : Int32) (s_olds : Nat → Int32) (s_youngs : Nat → Int32) (s_marshes : Nat → Int32) : Option ((Int32)) :=
  pcl (f_X6_sheetsAt x1 s_count s_olds s_youngs) (fun r_1 => (
  pcl (f_X6_marshesOf r_1 s_count s_marshes) (fun r_3 => (
  some (r_3)))))

set_option maxRecDepth 100000 in
set_option maxHeartbeats 4000000 in
theorem ct_X6_marshesAt (l : Launch) (D : va_G) (cA : Nat → ClassId) (x1 : Int32) (a0 : Nat) (q_olds : Nat) (q_youngs : Nat) (q_marshes : Nat) (s_count : Int32) (s_olds : Nat → Int32) (s_youngs : Nat → Int32) (s_marshes : Nat → Int32) (o_r : Int32) (hf : f_X6_marshesAt x1 s_count s_olds s_youngs s_marshes = some o_r) : CT l yX6_marshesAt wsX6_marshesAt rm_X6_marshesAt D cA [.ref a0, .int x1] (w_X6_marshesAt a0 q_olds q_youngs q_marshes cA s_count s_olds s_youngs s_marshes) (w_X6_marshesAt a0 q_olds q_youngs q_marshes cA s_count s_olds s_youngs s_marshes) (some (.int o_r)) := by
  refine CT.ofW (cc := cX6_marshesAt) (maxL := 2) (ret := (some .int)) (by decide +kernel) rfl (Nat.le_of_ble_eq_true rfl) ?_
  intro p e s m below meth c A C0 hA hP hD ls hl
  have C0 : MX p s m [.ref a0, .int x1].toArray meth c cX6_marshesAt 2 wsX6_marshesAt RX6 (some .int) D cA := C0
  have hl : lv_has ls 2 [(0, .ref a0), (1, .int x1)] := hl
  obtain ⟨hx, hb, hml, hown, hts, hr, hlocks, hX⟩ := id C0
  have hK := hX.1
  have hN := hX.2
  have hS : va_S A s.heap s.heap [] := va_S.rf
  unfold f_X6_marshesAt at hf
  refine lv_aload_n hx hb dX6_marshesAt_0 rfl (lv_at hl 0 rfl) ?_
  refine lv_aload_n hx hb dX6_marshesAt_1 rfl (lv_at hl 0 rfl) ?_
  refine lv_iload_n hx hb dX6_marshesAt_2 rfl (lv_at hl 1 rfl) ?_
  obtain ⟨r_1, hc_2, hf⟩ := pcl_e hf
  refine m_callV2 (As := [.int x1]) (rest := [.ref a0]) ⟨hx, hb, hml, hown, hts⟩ hX (ct_X6_sheetsAt l D cA x1 a0 q_olds q_youngs q_marshes s_count s_olds s_youngs r_1 hc_2) (cwV 1 hts gX6_marshesAt_X6_sheetsAt rfl rfl rfl (by decide +kernel) ⟨Nat.le_of_ble_eq_true rfl, Nat.le_of_ble_eq_true rfl⟩) hP hD hS hA [0, 1, 2] [3] 4 (by decide) rfl rfl (WS' := (w_X6_marshesAt a0 q_olds q_youngs q_marshes cA s_count s_olds s_youngs s_marshes)) (WR := [(q_marshes, .inl (cA 1, 12, .inl s_marshes))]) rfl rfl rfl rfl (by decide) (by decide) 0 6 rfl rfl rfl hl.1 rfl (st' := [.int r_1, .ref a0]) rfl (Nat.le_of_ble_eq_true rfl) ⟨Nat.zero_le _, Nat.zero_le _⟩ dX6_marshesAt_3 (fun H locs hP hD hS => ?_)
  obtain ⟨r_3, hc_4, hf⟩ := pcl_e hf
  refine m_callV2 (As := [.int r_1]) (rest := []) ⟨hx, hb, hml, hown, hts⟩ hX (ct_X6_marshesOf l D cA r_1 a0 q_marshes q_olds q_youngs s_count s_marshes r_3 hc_4) (cwV 1 hts gX6_marshesAt_X6_marshesOf rfl rfl rfl (by decide +kernel) ⟨Nat.le_of_ble_eq_true rfl, Nat.le_of_ble_eq_true rfl⟩) hP hD hS hA [0, 3] [1, 2] 4 (by decide) rfl rfl (WS' := (w_X6_marshesAt a0 q_olds q_youngs q_marshes cA s_count s_olds s_youngs s_marshes)) (WR := [(q_olds, .inl (cA 1, 12, .inl s_olds)), (q_youngs, .inl (cA 1, 12, .inl s_youngs))]) rfl rfl rfl rfl (by decide) (by decide) 0 6 rfl rfl rfl hl.1 rfl (st' := [.int r_3]) rfl (Nat.le_of_ble_eq_true rfl) ⟨Nat.zero_le _, Nat.zero_le _⟩ dX6_marshesAt_6 (fun H locs hP hD hS => ?_)
  obtain rfl := pe1 hf
  exact m_iret hx hb hr hlocks hP hS dX6_marshesAt_9

/-! ===== OrphanWave$Sheets.fewestYears()I ===== -/
abbrev rm_X6_fewestYears : Room := { frames := 2, cells := 0, slots := 0, locals := 45 }
abbrev w_X6_fewestYears (a0 : Nat) (q_youngs : Nat) (q_olds : Nat) (q_marshes : Nat) (cA : Nat → ClassId) (s_count : Int32) (s_youngs : Nat → Int32) (s_olds : Nat → Int32) : va_W := [(a0, .inr (6, [.ref q_marshes, .ref q_olds, .ref q_youngs, .int s_count])), (q_youngs, .inl (cA 1, 12, .inl s_youngs)), (q_olds, .inl (cA 1, 12, .inl s_olds))]

def f_X6_fewestYears_9 (s_count : Int32) (s_youngs : Nat → Int32) (s_olds : Nat → Int32) : Nat → (Int32) → (Int32) → (Int32) → Option ((Int32))
  | 0, _, _, _ => none
  | k + 1, x1, x2, x3 =>
    pbr ((12 : Int32) ≤ x3)
      (some (x2))
      (pbr (x1 = 0)
        (some (x2))
        (pcl (f_X6_lastShared x1 s_count s_youngs) (fun r_3 => (
        pcl (f_X6_sheetsAt r_3 s_count s_olds s_youngs) (fun r_5 => (
        plt ((x1 &&& (r_5 ^^^ (-1 : Int32))) : Int32) (fun x1_7 => (
        plt (x2 + (1 : Int32) : Int32) (fun x2_8 => (
        plt (x3 + (1 : Int32) : Int32) (fun x3_9 => (
        (f_X6_fewestYears_9 s_count s_youngs s_olds k) x1_7 x2_8 x3_9))))))))))))

set_option maxRecDepth 100000 in
set_option maxHeartbeats 4000000 in
theorem k_X6_fewestYears_9 {p : Program} {l : Launch} {e : Env} {s : State} {m : MethodId} {args : Array Value} {below : List Frame} {meth : Method} {c : Code} {A : Nat → Prop} {D : va_G} {cA : Nat → ClassId} (C0 : MX p s m args meth c cX6_fewestYears 4 wsX6_fewestYears RX6 (some .int) D cA) (hA : ∀ q, s.heap.size ≤ q → A q) {a0 : Nat} {q_youngs : Nat} {q_olds : Nat} {q_marshes : Nat} {s_count : Int32} {s_youngs : Nat → Int32} {s_olds : Nat → Int32} {o_r : Int32} : ∀ (k : Nat) (x1 : Int32) (x2 : Int32) (x3 : Int32), f_X6_fewestYears_9 s_count s_youngs s_olds k x1 x2 x3 = some o_r → ∀ (H : Heap) (locs : List Loc), va_P D vwCl (w_X6_fewestYears a0 q_youngs q_olds q_marshes cA s_count s_youngs s_olds) H → va_D A (w_X6_fewestYears a0 q_youngs q_olds q_marshes cA s_count s_youngs s_olds) → va_S A s.heap H locs → ∀ ls : Array Slot, lv_has ls 4 [(0, .ref a0), (1, .int x1), (2, .int x2), (3, .int x3)] → W p l e rm_X6_fewestYears s m args below meth c H locs 0 0 (MQ below (CQ D (some (.int o_r)) (w_X6_fewestYears a0 q_youngs q_olds q_marshes cA s_count s_youngs s_olds) A) args s 0 0 A) (F0 m 9 ls []) := by
  obtain ⟨hx, hb, hml, hown, hts, hr, hlocks, hX⟩ := C0
  have hK := hX.1
  have hN := hX.2
  intro k
  induction k with
  | zero =>
    intro x1 x2 x3 hf
    cases hf
  | succ k ih =>
    intro x1 x2 x3 hf H locs hP hD hS ls hl
    rw [f_X6_fewestYears_9] at hf
    refine lv_iload_n hx hb dX6_fewestYears_9 rfl (lv_at hl 3 rfl) ?_
    refine lv_bipush (v := (12 : Int32)) hx hb dX6_fewestYears_10 (by decide) ?_
    refine lv_icmp_ge (tgt := 42) hx hb dX6_fewestYears_12 (by decide) (fun c_1 => ?_) (fun c_1 => ?_)
    · have hf := pbr_t c_1 hf
      refine lv_iload_n hx hb dX6_fewestYears_42 rfl (lv_at hl 2 rfl) ?_
      obtain rfl := pe1 hf
      exact m_iret hx hb hr hlocks hP hS dX6_fewestYears_43
    have hf := pbr_f c_1 hf
    refine lv_iload_n hx hb dX6_fewestYears_15 rfl (lv_at hl 1 rfl) ?_
    refine lv_if_eq (tgt := 42) hx hb dX6_fewestYears_16 (by decide) (fun c_2 => ?_) (fun c_2 => ?_)
    · have hf := pbr_t c_2 hf
      refine lv_iload_n hx hb dX6_fewestYears_42 rfl (lv_at hl 2 rfl) ?_
      obtain rfl := pe1 hf
      exact m_iret hx hb hr hlocks hP hS dX6_fewestYears_43
    have hf := pbr_f c_2 hf
    refine lv_iload_n hx hb dX6_fewestYears_19 rfl (lv_at hl 1 rfl) ?_
    refine lv_aload_n hx hb dX6_fewestYears_20 rfl (lv_at hl 0 rfl) ?_
    refine lv_aload_n hx hb dX6_fewestYears_21 rfl (lv_at hl 0 rfl) ?_
    refine lv_iload_n hx hb dX6_fewestYears_22 rfl (lv_at hl 1 rfl) ?_
    obtain ⟨r_3, hc_4, hf⟩ := pcl_e hf
    refine m_callV2 (As := [.int x1]) (rest := [.ref a0, .int x1]) ⟨hx, hb, hml, hown, hts⟩ hX (ct_X6_lastShared l D cA x1 a0 q_youngs q_marshes q_olds s_count s_youngs r_3 hc_4) (cwV 1 hts gX6_fewestYears_X6_lastShared rfl rfl rfl (by decide +kernel) ⟨Nat.le_of_ble_eq_true rfl, Nat.le_of_ble_eq_true rfl⟩) hP hD hS hA [0, 1] [2] 3 (by decide) rfl rfl (WS' := (w_X6_fewestYears a0 q_youngs q_olds q_marshes cA s_count s_youngs s_olds)) (WR := [(q_olds, .inl (cA 1, 12, .inl s_olds))]) rfl rfl rfl rfl (by decide) (by decide) 0 6 rfl rfl rfl hl.1 rfl (st' := [.int r_3, .ref a0, .int x1]) rfl (Nat.le_of_ble_eq_true rfl) ⟨Nat.zero_le _, Nat.zero_le _⟩ dX6_fewestYears_23 (fun H locs hP hD hS => ?_)
    obtain ⟨r_5, hc_6, hf⟩ := pcl_e hf
    refine m_callV2 (As := [.int r_3]) (rest := [.int x1]) ⟨hx, hb, hml, hown, hts⟩ hX (ct_X6_sheetsAt l D cA r_3 a0 q_olds q_youngs q_marshes s_count s_olds s_youngs r_5 hc_6) (cwV 1 hts gX6_fewestYears_X6_sheetsAt rfl rfl rfl (by decide +kernel) ⟨Nat.le_of_ble_eq_true rfl, Nat.le_of_ble_eq_true rfl⟩) hP hD hS hA [0, 2, 1] [] 3 (by decide) rfl rfl (WS' := (w_X6_fewestYears a0 q_youngs q_olds q_marshes cA s_count s_youngs s_olds)) (WR := []) rfl rfl rfl rfl (by decide) (by decide) 0 6 rfl rfl rfl hl.1 rfl (st' := [.int r_5, .int x1]) rfl (Nat.le_of_ble_eq_true rfl) ⟨Nat.zero_le _, Nat.zero_le _⟩ dX6_fewestYears_26 (fun H locs hP hD hS => ?_)
    refine lv_iconst (v := (-1 : Int32)) hx hb dX6_fewestYears_29 (by decide) ?_
    refine lv_ixor hx hb dX6_fewestYears_30 ?_
    refine lv_iand hx hb dX6_fewestYears_31 ?_
    refine lv_topi (fun x1_7 ex1_7 => ?_)
    have hf := plt_e ex1_7 hf
    refine lv_istore_n (lv' := [(1, .int x1_7), (0, .ref a0), (2, .int x2), (3, .int x3)]) hx hb dX6_fewestYears_32 rfl hl (by decide) rfl (fun ls hl => ?_)
    obtain ⟨x2_8, ex2_8⟩ : ∃ z : Int32, z = x2 + (1 : Int32) := ⟨_, rfl⟩
    have hf := plt_e ex2_8 hf
    refine lv_iinc (v := x2_8) (lv' := [(2, .int x2_8), (1, .int x1_7), (0, .ref a0), (3, .int x3)]) hx hb dX6_fewestYears_33 hl (k := 2) rfl (by rw [ex2_8]; rfl) (by decide) rfl (fun ls hl => ?_)
    obtain ⟨x3_9, ex3_9⟩ : ∃ z : Int32, z = x3 + (1 : Int32) := ⟨_, rfl⟩
    have hf := plt_e ex3_9 hf
    refine lv_iinc (v := x3_9) (lv' := [(3, .int x3_9), (2, .int x2_8), (1, .int x1_7), (0, .ref a0)]) hx hb dX6_fewestYears_36 hl (k := 3) rfl (by rw [ex3_9]; rfl) (by decide) rfl (fun ls hl => ?_)
    refine lv_goto (tgt := 9) hx hb dX6_fewestYears_39 (by decide) ?_
    exact ih x1_7 x2_8 x3_9 hf _ _ hP hD hS ls (lv_sub hl [3, 2, 1, 0] rfl)

def f_X6_fewestYears (s_count : Int32) (s_youngs : Nat → Int32) (s_olds : Nat → Int32) : Option ((Int32)) :=
  pcl (f_X6_all s_count) (fun r_1 => (
  f_X6_fewestYears_9 s_count s_youngs s_olds FU r_1 (0 : Int32) (0 : Int32)))

set_option maxRecDepth 100000 in
set_option maxHeartbeats 4000000 in
theorem ct_X6_fewestYears (l : Launch) (D : va_G) (cA : Nat → ClassId) (a0 : Nat) (q_youngs : Nat) (q_olds : Nat) (q_marshes : Nat) (s_count : Int32) (s_youngs : Nat → Int32) (s_olds : Nat → Int32) (o_r : Int32) (hf : f_X6_fewestYears s_count s_youngs s_olds = some o_r) : CT l yX6_fewestYears wsX6_fewestYears rm_X6_fewestYears D cA [.ref a0] (w_X6_fewestYears a0 q_youngs q_olds q_marshes cA s_count s_youngs s_olds) (w_X6_fewestYears a0 q_youngs q_olds q_marshes cA s_count s_youngs s_olds) (some (.int o_r)) := by
  refine CT.ofW (cc := cX6_fewestYears) (maxL := 4) (ret := (some .int)) (by decide +kernel) rfl (Nat.le_of_ble_eq_true rfl) ?_
  intro p e s m below meth c A C0 hA hP hD ls hl
  have C0 : MX p s m [.ref a0].toArray meth c cX6_fewestYears 4 wsX6_fewestYears RX6 (some .int) D cA := C0
  have hl : lv_has ls 4 [(0, .ref a0)] := hl
  obtain ⟨hx, hb, hml, hown, hts, hr, hlocks, hX⟩ := id C0
  have hK := hX.1
  have hN := hX.2
  have hS : va_S A s.heap s.heap [] := va_S.rf
  unfold f_X6_fewestYears at hf
  refine lv_aload_n hx hb dX6_fewestYears_0 rfl (lv_at hl 0 rfl) ?_
  obtain ⟨r_1, hc_2, hf⟩ := pcl_e hf
  refine m_callV2 (As := []) (rest := []) ⟨hx, hb, hml, hown, hts⟩ hX (ct_X6_all l D cA a0 q_marshes q_olds q_youngs s_count r_1 hc_2) (cwV 0 hts gX6_fewestYears_X6_all rfl rfl rfl (by decide +kernel) ⟨Nat.le_of_ble_eq_true rfl, Nat.le_of_ble_eq_true rfl⟩) hP hD hS hA [0] [1, 2] 3 (by decide) rfl rfl (WS' := (w_X6_fewestYears a0 q_youngs q_olds q_marshes cA s_count s_youngs s_olds)) (WR := [(q_youngs, .inl (cA 1, 12, .inl s_youngs)), (q_olds, .inl (cA 1, 12, .inl s_olds))]) rfl rfl rfl rfl (by decide) (by decide) 0 6 rfl rfl rfl hl.1 rfl (st' := [.int r_1]) rfl (Nat.le_of_ble_eq_true rfl) ⟨Nat.zero_le _, Nat.zero_le _⟩ dX6_fewestYears_1 (fun H locs hP hD hS => ?_)
  refine lv_istore_n (lv' := [(1, .int r_1), (0, .ref a0)]) hx hb dX6_fewestYears_4 rfl hl (by decide) rfl (fun ls hl => ?_)
  refine lv_iconst (v := (0 : Int32)) hx hb dX6_fewestYears_5 (by decide) ?_
  refine lv_istore_n (lv' := [(2, .int (0 : Int32)), (1, .int r_1), (0, .ref a0)]) hx hb dX6_fewestYears_6 rfl hl (by decide) rfl (fun ls hl => ?_)
  refine lv_iconst (v := (0 : Int32)) hx hb dX6_fewestYears_7 (by decide) ?_
  refine lv_istore_n (lv' := [(3, .int (0 : Int32)), (2, .int (0 : Int32)), (1, .int r_1), (0, .ref a0)]) hx hb dX6_fewestYears_8 rfl hl (by decide) rfl (fun ls hl => ?_)
  exact k_X6_fewestYears_9 C0 hA FU r_1 (0 : Int32) (0 : Int32) hf _ _ hP hD hS ls (lv_sub hl [3, 2, 1, 0] rfl)

/-! ===== OrphanWave$Sheets.mostOfOneMarsh()I ===== -/
abbrev rm_X6_mostOfOneMarsh : Room := { frames := 1, cells := 0, slots := 0, locals := 13 }
abbrev w_X6_mostOfOneMarsh (a0 : Nat) (q_marshes : Nat) (q_olds : Nat) (q_youngs : Nat) (cA : Nat → ClassId) (s_count : Int32) (s_marshes : Nat → Int32) : va_W := [(a0, .inr (6, [.ref q_marshes, .ref q_olds, .ref q_youngs, .int s_count])), (q_marshes, .inl (cA 1, 12, .inl s_marshes))]
theorem hn_X6_mostOfOneMarsh_X6 : ∀ w ∈ u_ws RX6 TX6 4, w ∈ wsX6_mostOfOneMarsh := by decide +kernel
theorem hw_X6_mostOfOneMarsh_f21 : Cond.fieldLink RX6 21 "OrphanWave$Sheets" "count" "I" ∈ wsX6_mostOfOneMarsh := by decide +kernel
theorem hw_X6_mostOfOneMarsh_m31 : Cond.methodLink RX6 31 Lib.Math.max.name ∈ wsX6_mostOfOneMarsh := by decide +kernel
theorem hw_X6_mostOfOneMarsh_smax : Cond.static Lib.Math.max.name ∈ wsX6_mostOfOneMarsh := by decide +kernel
theorem hw_X6_mostOfOneMarsh_imath : Cond.initialized "java/lang/Math" ∈ wsX6_mostOfOneMarsh := by decide +kernel
theorem hw_X6_mostOfOneMarsh_kmax : Cond.code Lib.Math.max.name Lib.Math.max.code 2 (some .int) ∈ wsX6_mostOfOneMarsh := by decide +kernel
theorem hw_X6_mostOfOneMarsh_f9 : Cond.fieldLink RX6 9 "OrphanWave$Sheets" "marshes" "[I" ∈ wsX6_mostOfOneMarsh := by decide +kernel

def f_X6_mostOfOneMarsh_15 (r4 : (Int32) → (Int32) → Option ((Int32))) (s_count : Int32) (s_marshes : Nat → Int32) : Nat → (Int32) → (Int32) → (Int32) → (Int32) → Option ((Int32))
  | 0, _, _, _, _ => none
  | k + 1, x1, x2, x3, x4 =>
    pbr (s_count ≤ x4)
      (plt ((if x1 < x3 then x3 else x1) : Int32) (fun x1_2 => (
      plt (x2 + (1 : Int32) : Int32) (fun x2_3 => (
      r4 x1_2 x2_3)))))
      (pgd (pin x4 12) (
      pbr ((s_marshes x4.toNatClampNeg) = x2)
        (plt (x3 + (1 : Int32) : Int32) (fun x3_7 => (
        plt (x4 + (1 : Int32) : Int32) (fun x4_8 => (
        (f_X6_mostOfOneMarsh_15 r4 s_count s_marshes k) x1 x2 x3_7 x4_8)))))
        (plt (x4 + (1 : Int32) : Int32) (fun x4_6 => (
        (f_X6_mostOfOneMarsh_15 r4 s_count s_marshes k) x1 x2 x3 x4_6)))))

set_option maxRecDepth 100000 in
set_option maxHeartbeats 4000000 in
theorem k_X6_mostOfOneMarsh_15 {p : Program} {l : Launch} {e : Env} {s : State} {m : MethodId} {args : Array Value} {below : List Frame} {meth : Method} {c : Code} {A : Nat → Prop} {D : va_G} {cA : Nat → ClassId} (C0 : MX p s m args meth c cX6_mostOfOneMarsh 5 wsX6_mostOfOneMarsh RX6 (some .int) D cA) (hA : ∀ q, s.heap.size ≤ q → A q) {a0 : Nat} {q_marshes : Nat} {q_olds : Nat} {q_youngs : Nat} {s_count : Int32} {s_marshes : Nat → Int32} {o_r : Int32} {r4 : (Int32) → (Int32) → Option ((Int32))} (hr4 : ∀ (x1 : Int32) (x2 : Int32), r4 x1 x2 = some o_r → ∀ (H : Heap) (locs : List Loc), va_P D vwCl (w_X6_mostOfOneMarsh a0 q_marshes q_olds q_youngs cA s_count s_marshes) H → va_D A (w_X6_mostOfOneMarsh a0 q_marshes q_olds q_youngs cA s_count s_marshes) → va_S A s.heap H locs → ∀ ls : Array Slot, lv_has ls 5 [(0, .ref a0), (1, .int x1), (2, .int x2)] → W p l e rm_X6_mostOfOneMarsh s m args below meth c H locs 0 0 (MQ below (CQ D (some (.int o_r)) (w_X6_mostOfOneMarsh a0 q_marshes q_olds q_youngs cA s_count s_marshes) A) args s 0 0 A) (F0 m 4 ls [])) : ∀ (k : Nat) (x1 : Int32) (x2 : Int32) (x3 : Int32) (x4 : Int32), f_X6_mostOfOneMarsh_15 r4 s_count s_marshes k x1 x2 x3 x4 = some o_r → ∀ (H : Heap) (locs : List Loc), va_P D vwCl (w_X6_mostOfOneMarsh a0 q_marshes q_olds q_youngs cA s_count s_marshes) H → va_D A (w_X6_mostOfOneMarsh a0 q_marshes q_olds q_youngs cA s_count s_marshes) → va_S A s.heap H locs → ∀ ls : Array Slot, lv_has ls 5 [(0, .ref a0), (1, .int x1), (2, .int x2), (3, .int x3), (4, .int x4)] → W p l e rm_X6_mostOfOneMarsh s m args below meth c H locs 0 0 (MQ below (CQ D (some (.int o_r)) (w_X6_mostOfOneMarsh a0 q_marshes q_olds q_youngs cA s_count s_marshes) A) args s 0 0 A) (F0 m 15 ls []) := by
  obtain ⟨hx, hb, hml, hown, hts, hr, hlocks, hX⟩ := C0
  have hK := hX.1
  have hN := hX.2
  intro k
  induction k with
  | zero =>
    intro x1 x2 x3 x4 hf
    cases hf
  | succ k ih =>
    intro x1 x2 x3 x4 hf H locs hP hD hS ls hl
    rw [f_X6_mostOfOneMarsh_15] at hf
    refine lv_iload hx hb dX6_mostOfOneMarsh_15 (lv_at hl 4 rfl) ?_
    refine lv_aload_n hx hb dX6_mostOfOneMarsh_17 rfl (lv_at hl 0 rfl) ?_
    refine va_get (D := D) (ci := 6) (v := .int s_count) (C := RX6) (T := TX6) (N := 4) hx hb hts hn_X6_mostOfOneMarsh_X6 hown hK hP 0 rfl rfl 3 (by decide) (hts _ hw_X6_mostOfOneMarsh_f21) (fun _ h9 => h9) rfl dX6_mostOfOneMarsh_18 ?_
    refine lv_icmp_ge (tgt := 44) hx hb dX6_mostOfOneMarsh_21 (by decide) (fun c_1 => ?_) (fun c_1 => ?_)
    · have hf := pbr_t c_1 hf
      refine lv_iload_n hx hb dX6_mostOfOneMarsh_44 rfl (lv_at hl 1 rfl) ?_
      refine lv_iload_n hx hb dX6_mostOfOneMarsh_45 rfl (lv_at hl 3 rfl) ?_
      refine va_mmax hx hb (hml.trans hl.1.symm) hown (hts _ hw_X6_mostOfOneMarsh_m31) (hts _ hw_X6_mostOfOneMarsh_smax) (hts _ hw_X6_mostOfOneMarsh_imath) (hts _ hw_X6_mostOfOneMarsh_kmax) (Nat.le_of_ble_eq_true rfl) (Nat.le_of_ble_eq_true rfl) (Nat.zero_le _) (Nat.zero_le _) dX6_mostOfOneMarsh_46 ?_
      refine lv_topi (fun x1_2 ex1_2 => ?_)
      have hf := plt_e ex1_2 hf
      refine lv_istore_n (lv' := [(1, .int x1_2), (0, .ref a0), (2, .int x2), (3, .int x3), (4, .int x4)]) hx hb dX6_mostOfOneMarsh_49 rfl hl (by decide) rfl (fun ls hl => ?_)
      obtain ⟨x2_3, ex2_3⟩ : ∃ z : Int32, z = x2 + (1 : Int32) := ⟨_, rfl⟩
      have hf := plt_e ex2_3 hf
      refine lv_iinc (v := x2_3) (lv' := [(2, .int x2_3), (1, .int x1_2), (0, .ref a0), (3, .int x3), (4, .int x4)]) hx hb dX6_mostOfOneMarsh_50 hl (k := 2) rfl (by rw [ex2_3]; rfl) (by decide) rfl (fun ls hl => ?_)
      refine lv_goto (tgt := 4) hx hb dX6_mostOfOneMarsh_53 (by decide) ?_
      exact hr4 x1_2 x2_3 hf _ _ hP hD hS ls (lv_sub hl [2, 1, 0] rfl)
    have hf := pbr_f c_1 hf
    refine lv_aload_n hx hb dX6_mostOfOneMarsh_24 rfl (lv_at hl 0 rfl) ?_
    refine va_get (D := D) (ci := 6) (v := .ref q_marshes) (C := RX6) (T := TX6) (N := 4) hx hb hts hn_X6_mostOfOneMarsh_X6 hown hK hP 0 rfl rfl 0 (by decide) (hts _ hw_X6_mostOfOneMarsh_f9) (fun _ h9 => h9) rfl dX6_mostOfOneMarsh_25 ?_
    refine lv_iload hx hb dX6_mostOfOneMarsh_28 (lv_at hl 4 rfl) ?_
    obtain ⟨g_4, hf⟩ := pgd_e hf
    refine va_iald hx hb hK hP 1 1 rfl rfl g_4 dX6_mostOfOneMarsh_30 ?_
    refine lv_iload_n hx hb dX6_mostOfOneMarsh_31 rfl (lv_at hl 2 rfl) ?_
    refine lv_icmp_ne (tgt := 38) hx hb dX6_mostOfOneMarsh_32 (by decide) (fun c_5 => ?_) (fun c_5 => ?_)
    · have hf := pbr_f c_5 hf
      obtain ⟨x4_6, ex4_6⟩ : ∃ z : Int32, z = x4 + (1 : Int32) := ⟨_, rfl⟩
      have hf := plt_e ex4_6 hf
      refine lv_iinc (v := x4_6) (lv' := [(4, .int x4_6), (0, .ref a0), (1, .int x1), (2, .int x2), (3, .int x3)]) hx hb dX6_mostOfOneMarsh_38 hl (k := 4) rfl (by rw [ex4_6]; rfl) (by decide) rfl (fun ls hl => ?_)
      refine lv_goto (tgt := 15) hx hb dX6_mostOfOneMarsh_41 (by decide) ?_
      exact ih x1 x2 x3 x4_6 hf _ _ hP hD hS ls (lv_sub hl [1, 2, 3, 4, 0] rfl)
    have hf := pbr_t c_5 hf
    obtain ⟨x3_7, ex3_7⟩ : ∃ z : Int32, z = x3 + (1 : Int32) := ⟨_, rfl⟩
    have hf := plt_e ex3_7 hf
    refine lv_iinc (v := x3_7) (lv' := [(3, .int x3_7), (0, .ref a0), (1, .int x1), (2, .int x2), (4, .int x4)]) hx hb dX6_mostOfOneMarsh_35 hl (k := 3) rfl (by rw [ex3_7]; rfl) (by decide) rfl (fun ls hl => ?_)
    obtain ⟨x4_8, ex4_8⟩ : ∃ z : Int32, z = x4 + (1 : Int32) := ⟨_, rfl⟩
    have hf := plt_e ex4_8 hf
    refine lv_iinc (v := x4_8) (lv' := [(4, .int x4_8), (3, .int x3_7), (0, .ref a0), (1, .int x1), (2, .int x2)]) hx hb dX6_mostOfOneMarsh_38 hl (k := 4) rfl (by rw [ex4_8]; rfl) (by decide) rfl (fun ls hl => ?_)
    refine lv_goto (tgt := 15) hx hb dX6_mostOfOneMarsh_41 (by decide) ?_
    exact ih x1 x2 x3_7 x4_8 hf _ _ hP hD hS ls (lv_sub hl [2, 3, 4, 1, 0] rfl)

def f_X6_mostOfOneMarsh_4 (s_count : Int32) (s_marshes : Nat → Int32) : Nat → (Int32) → (Int32) → Option ((Int32))
  | 0, _, _ => none
  | k + 1, x1, x2 =>
    pbr ((6 : Int32) ≤ x2)
      (some (x1))
      (f_X6_mostOfOneMarsh_15 (f_X6_mostOfOneMarsh_4 s_count s_marshes k) s_count s_marshes FU x1 x2 (0 : Int32) (0 : Int32))

set_option maxRecDepth 100000 in
set_option maxHeartbeats 4000000 in
theorem k_X6_mostOfOneMarsh_4 {p : Program} {l : Launch} {e : Env} {s : State} {m : MethodId} {args : Array Value} {below : List Frame} {meth : Method} {c : Code} {A : Nat → Prop} {D : va_G} {cA : Nat → ClassId} (C0 : MX p s m args meth c cX6_mostOfOneMarsh 5 wsX6_mostOfOneMarsh RX6 (some .int) D cA) (hA : ∀ q, s.heap.size ≤ q → A q) {a0 : Nat} {q_marshes : Nat} {q_olds : Nat} {q_youngs : Nat} {s_count : Int32} {s_marshes : Nat → Int32} {o_r : Int32} : ∀ (k : Nat) (x1 : Int32) (x2 : Int32), f_X6_mostOfOneMarsh_4 s_count s_marshes k x1 x2 = some o_r → ∀ (H : Heap) (locs : List Loc), va_P D vwCl (w_X6_mostOfOneMarsh a0 q_marshes q_olds q_youngs cA s_count s_marshes) H → va_D A (w_X6_mostOfOneMarsh a0 q_marshes q_olds q_youngs cA s_count s_marshes) → va_S A s.heap H locs → ∀ ls : Array Slot, lv_has ls 5 [(0, .ref a0), (1, .int x1), (2, .int x2)] → W p l e rm_X6_mostOfOneMarsh s m args below meth c H locs 0 0 (MQ below (CQ D (some (.int o_r)) (w_X6_mostOfOneMarsh a0 q_marshes q_olds q_youngs cA s_count s_marshes) A) args s 0 0 A) (F0 m 4 ls []) := by
  obtain ⟨hx, hb, hml, hown, hts, hr, hlocks, hX⟩ := C0
  have hK := hX.1
  have hN := hX.2
  intro k
  induction k with
  | zero =>
    intro x1 x2 hf
    cases hf
  | succ k ih =>
    intro x1 x2 hf H locs hP hD hS ls hl
    rw [f_X6_mostOfOneMarsh_4] at hf
    refine lv_iload_n hx hb dX6_mostOfOneMarsh_4 rfl (lv_at hl 2 rfl) ?_
    refine lv_bipush (v := (6 : Int32)) hx hb dX6_mostOfOneMarsh_5 (by decide) ?_
    refine lv_icmp_ge (tgt := 56) hx hb dX6_mostOfOneMarsh_7 (by decide) (fun c_1 => ?_) (fun c_1 => ?_)
    · have hf := pbr_t c_1 hf
      refine lv_iload_n hx hb dX6_mostOfOneMarsh_56 rfl (lv_at hl 1 rfl) ?_
      obtain rfl := pe1 hf
      exact m_iret hx hb hr hlocks hP hS dX6_mostOfOneMarsh_57
    have hf := pbr_f c_1 hf
    refine lv_iconst (v := (0 : Int32)) hx hb dX6_mostOfOneMarsh_10 (by decide) ?_
    refine lv_istore_n (lv' := [(3, .int (0 : Int32)), (0, .ref a0), (1, .int x1), (2, .int x2)]) hx hb dX6_mostOfOneMarsh_11 rfl hl (by decide) rfl (fun ls hl => ?_)
    refine lv_iconst (v := (0 : Int32)) hx hb dX6_mostOfOneMarsh_12 (by decide) ?_
    refine lv_istore (lv' := [(4, .int (0 : Int32)), (3, .int (0 : Int32)), (0, .ref a0), (1, .int x1), (2, .int x2)]) hx hb dX6_mostOfOneMarsh_13 hl (by decide) rfl (fun ls hl => ?_)
    exact k_X6_mostOfOneMarsh_15 ⟨hx, hb, hml, hown, hts, hr, hlocks, hX⟩ hA ih FU x1 x2 (0 : Int32) (0 : Int32) hf _ _ hP hD hS ls (lv_sub hl [2, 3, 4, 1, 0] rfl)

def f_X6_mostOfOneMarsh (s_count : Int32) (s_marshes : Nat → Int32) : Option ((Int32)) :=
  f_X6_mostOfOneMarsh_4 s_count s_marshes FU (0 : Int32) (0 : Int32)

set_option maxRecDepth 100000 in
set_option maxHeartbeats 4000000 in
theorem ct_X6_mostOfOneMarsh (l : Launch) (D : va_G) (cA : Nat → ClassId) (a0 : Nat) (q_marshes : Nat) (q_olds : Nat) (q_youngs : Nat) (s_count : Int32) (s_marshes : Nat → Int32) (o_r : Int32) (hf : f_X6_mostOfOneMarsh s_count s_marshes = some o_r) : CT l yX6_mostOfOneMarsh wsX6_mostOfOneMarsh rm_X6_mostOfOneMarsh D cA [.ref a0] (w_X6_mostOfOneMarsh a0 q_marshes q_olds q_youngs cA s_count s_marshes) (w_X6_mostOfOneMarsh a0 q_marshes q_olds q_youngs cA s_count s_marshes) (some (.int o_r)) := by
  refine CT.ofW (cc := cX6_mostOfOneMarsh) (maxL := 5) (ret := (some .int)) (by decide +kernel) rfl (Nat.le_of_ble_eq_true rfl) ?_
  intro p e s m below meth c A C0 hA hP hD ls hl
  have C0 : MX p s m [.ref a0].toArray meth c cX6_mostOfOneMarsh 5 wsX6_mostOfOneMarsh RX6 (some .int) D cA := C0
  have hl : lv_has ls 5 [(0, .ref a0)] := hl
  obtain ⟨hx, hb, hml, hown, hts, hr, hlocks, hX⟩ := id C0
  have hK := hX.1
  have hN := hX.2
  have hS : va_S A s.heap s.heap [] := va_S.rf
  unfold f_X6_mostOfOneMarsh at hf
  refine lv_iconst (v := (0 : Int32)) hx hb dX6_mostOfOneMarsh_0 (by decide) ?_
  refine lv_istore_n (lv' := [(1, .int (0 : Int32)), (0, .ref a0)]) hx hb dX6_mostOfOneMarsh_1 rfl hl (by decide) rfl (fun ls hl => ?_)
  refine lv_iconst (v := (0 : Int32)) hx hb dX6_mostOfOneMarsh_2 (by decide) ?_
  refine lv_istore_n (lv' := [(2, .int (0 : Int32)), (1, .int (0 : Int32)), (0, .ref a0)]) hx hb dX6_mostOfOneMarsh_3 rfl hl (by decide) rfl (fun ls hl => ?_)
  exact k_X6_mostOfOneMarsh_4 C0 hA FU (0 : Int32) (0 : Int32) hf _ _ hP hD hS ls (lv_sub hl [2, 1, 0] rfl)

/-! ===== OrphanWave$Sheets.widestYear()I ===== -/
abbrev rm_X6_widestYear : Room := { frames := 3, cells := 0, slots := 0, locals := 66 }
abbrev w_X6_widestYear (a0 : Nat) (q_olds : Nat) (q_youngs : Nat) (q_marshes : Nat) (cA : Nat → ClassId) (s_count : Int32) (s_olds : Nat → Int32) (s_youngs : Nat → Int32) (s_marshes : Nat → Int32) : va_W := [(a0, .inr (6, [.ref q_marshes, .ref q_olds, .ref q_youngs, .int s_count])), (q_olds, .inl (cA 1, 12, .inl s_olds)), (q_youngs, .inl (cA 1, 12, .inl s_youngs)), (q_marshes, .inl (cA 1, 12, .inl s_marshes))]
theorem hn_X6_widestYear_X6 : ∀ w ∈ u_ws RX6 TX6 4, w ∈ wsX6_widestYear := by decide +kernel
theorem hw_X6_widestYear_f21 : Cond.fieldLink RX6 21 "OrphanWave$Sheets" "count" "I" ∈ wsX6_widestYear := by decide +kernel
theorem hw_X6_widestYear_f15 : Cond.fieldLink RX6 15 "OrphanWave$Sheets" "olds" "[I" ∈ wsX6_widestYear := by decide +kernel

def f_X6_widestYear_52 (r7 : (Int32) → (Int32) → (Int32) → Option ((Int32))) (s_count : Int32) (s_olds : Nat → Int32) (s_youngs : Nat → Int32) (s_marshes : Nat → Int32) (x3 : Int32) (x4 : Int32) : Option ((Int32)) :=
  pgd (pin x3 12) (
  plt ((s_olds x3.toNatClampNeg) : Int32) (fun x1_2 => (
  plt (x3 + (1 : Int32) : Int32) (fun x3_3 => (
  r7 x1_2 x4 x3_3)))))

set_option maxRecDepth 100000 in
set_option maxHeartbeats 4000000 in
theorem k_X6_widestYear_52 {p : Program} {l : Launch} {e : Env} {s : State} {m : MethodId} {args : Array Value} {below : List Frame} {meth : Method} {c : Code} {A : Nat → Prop} {D : va_G} {cA : Nat → ClassId} (C0 : MX p s m args meth c cX6_widestYear 5 wsX6_widestYear RX6 (some .int) D cA) (hA : ∀ q, s.heap.size ≤ q → A q) {a0 : Nat} {q_olds : Nat} {q_youngs : Nat} {q_marshes : Nat} {s_count : Int32} {s_olds : Nat → Int32} {s_youngs : Nat → Int32} {s_marshes : Nat → Int32} {o_r : Int32} {r7 : (Int32) → (Int32) → (Int32) → Option ((Int32))} (hr7 : ∀ (x1 : Int32) (x2 : Int32) (x3 : Int32), r7 x1 x2 x3 = some o_r → ∀ (H : Heap) (locs : List Loc), va_P D vwCl (w_X6_widestYear a0 q_olds q_youngs q_marshes cA s_count s_olds s_youngs s_marshes) H → va_D A (w_X6_widestYear a0 q_olds q_youngs q_marshes cA s_count s_olds s_youngs s_marshes) → va_S A s.heap H locs → ∀ ls : Array Slot, lv_has ls 5 [(0, .ref a0), (1, .int x1), (2, .int x2), (3, .int x3)] → W p l e rm_X6_widestYear s m args below meth c H locs 0 0 (MQ below (CQ D (some (.int o_r)) (w_X6_widestYear a0 q_olds q_youngs q_marshes cA s_count s_olds s_youngs s_marshes) A) args s 0 0 A) (F0 m 7 ls [])) : ∀ (x3 : Int32) (x4 : Int32), f_X6_widestYear_52 r7 s_count s_olds s_youngs s_marshes x3 x4 = some o_r → ∀ (H : Heap) (locs : List Loc), va_P D vwCl (w_X6_widestYear a0 q_olds q_youngs q_marshes cA s_count s_olds s_youngs s_marshes) H → va_D A (w_X6_widestYear a0 q_olds q_youngs q_marshes cA s_count s_olds s_youngs s_marshes) → va_S A s.heap H locs → ∀ ls : Array Slot, lv_has ls 5 [(0, .ref a0), (3, .int x3), (4, .int x4)] → W p l e rm_X6_widestYear s m args below meth c H locs 0 0 (MQ below (CQ D (some (.int o_r)) (w_X6_widestYear a0 q_olds q_youngs q_marshes cA s_count s_olds s_youngs s_marshes) A) args s 0 0 A) (F0 m 52 ls []) := by
  obtain ⟨hx, hb, hml, hown, hts, hr, hlocks, hX⟩ := C0
  have hK := hX.1
  have hN := hX.2
  intro x3 x4 hf H locs hP hD hS ls hl
  unfold f_X6_widestYear_52 at hf
  refine lv_iload hx hb dX6_widestYear_52 (lv_at hl 2 rfl) ?_
  refine lv_istore_n (lv' := [(2, .int x4), (0, .ref a0), (3, .int x3), (4, .int x4)]) hx hb dX6_widestYear_54 rfl hl (by decide) rfl (fun ls hl => ?_)
  refine lv_aload_n hx hb dX6_widestYear_55 rfl (lv_at hl 1 rfl) ?_
  refine va_get (D := D) (ci := 6) (v := .ref q_olds) (C := RX6) (T := TX6) (N := 4) hx hb hts hn_X6_widestYear_X6 hown hK hP 0 rfl rfl 1 (by decide) (hts _ hw_X6_widestYear_f15) (fun _ h9 => h9) rfl dX6_widestYear_56 ?_
  refine lv_iload_n hx hb dX6_widestYear_59 rfl (lv_at hl 2 rfl) ?_
  obtain ⟨g_1, hf⟩ := pgd_e hf
  refine va_iald hx hb hK hP 1 1 rfl rfl g_1 dX6_widestYear_60 ?_
  refine lv_topi (fun x1_2 ex1_2 => ?_)
  have hf := plt_e ex1_2 hf
  refine lv_istore_n (lv' := [(1, .int x1_2), (2, .int x4), (0, .ref a0), (3, .int x3), (4, .int x4)]) hx hb dX6_widestYear_61 rfl hl (by decide) rfl (fun ls hl => ?_)
  obtain ⟨x3_3, ex3_3⟩ : ∃ z : Int32, z = x3 + (1 : Int32) := ⟨_, rfl⟩
  have hf := plt_e ex3_3 hf
  refine lv_iinc (v := x3_3) (lv' := [(3, .int x3_3), (1, .int x1_2), (2, .int x4), (0, .ref a0), (4, .int x4)]) hx hb dX6_widestYear_62 hl (k := 3) rfl (by rw [ex3_3]; rfl) (by decide) rfl (fun ls hl => ?_)
  refine lv_goto (tgt := 7) hx hb dX6_widestYear_65 (by decide) ?_
  exact hr7 x1_2 x4 x3_3 hf _ _ hP hD hS ls (lv_sub hl [3, 1, 2, 0] rfl)

def f_X6_widestYear_7 (s_count : Int32) (s_olds : Nat → Int32) (s_youngs : Nat → Int32) (s_marshes : Nat → Int32) : Nat → (Int32) → (Int32) → (Int32) → Option ((Int32))
  | 0, _, _, _ => none
  | k + 1, x1, x2, x3 =>
    pbr (s_count ≤ x3)
      (some (x1))
      (pgd (pin x3 12) (
      pcl (f_X6_marshesAt (s_olds x3.toNatClampNeg) s_count s_olds s_youngs s_marshes) (fun r_3 => (
      pcl (f_J6_bitCount_0f7a4 r_3) (fun r_5 => (
      pbr (x2 < r_5)
        (f_X6_widestYear_52 (f_X6_widestYear_7 s_count s_olds s_youngs s_marshes k) s_count s_olds s_youngs s_marshes x3 r_5)
        (pbr (r_5 = x2)
          (pbr (x1 ≤ (s_olds x3.toNatClampNeg))
            (plt (x3 + (1 : Int32) : Int32) (fun x3_11 => (
            (f_X6_widestYear_7 s_count s_olds s_youngs s_marshes k) x1 x2 x3_11)))
            (f_X6_widestYear_52 (f_X6_widestYear_7 s_count s_olds s_youngs s_marshes k) s_count s_olds s_youngs s_marshes x3 r_5))
          (plt (x3 + (1 : Int32) : Int32) (fun x3_9 => (
          (f_X6_widestYear_7 s_count s_olds s_youngs s_marshes k) x1 x2 x3_9))))))))))

set_option maxRecDepth 100000 in
set_option maxHeartbeats 4000000 in
theorem k_X6_widestYear_7 {p : Program} {l : Launch} {e : Env} {s : State} {m : MethodId} {args : Array Value} {below : List Frame} {meth : Method} {c : Code} {A : Nat → Prop} {D : va_G} {cA : Nat → ClassId} (C0 : MX p s m args meth c cX6_widestYear 5 wsX6_widestYear RX6 (some .int) D cA) (hA : ∀ q, s.heap.size ≤ q → A q) {a0 : Nat} {q_olds : Nat} {q_youngs : Nat} {q_marshes : Nat} {s_count : Int32} {s_olds : Nat → Int32} {s_youngs : Nat → Int32} {s_marshes : Nat → Int32} {o_r : Int32} : ∀ (k : Nat) (x1 : Int32) (x2 : Int32) (x3 : Int32), f_X6_widestYear_7 s_count s_olds s_youngs s_marshes k x1 x2 x3 = some o_r → ∀ (H : Heap) (locs : List Loc), va_P D vwCl (w_X6_widestYear a0 q_olds q_youngs q_marshes cA s_count s_olds s_youngs s_marshes) H → va_D A (w_X6_widestYear a0 q_olds q_youngs q_marshes cA s_count s_olds s_youngs s_marshes) → va_S A s.heap H locs → ∀ ls : Array Slot, lv_has ls 5 [(0, .ref a0), (1, .int x1), (2, .int x2), (3, .int x3)] → W p l e rm_X6_widestYear s m args below meth c H locs 0 0 (MQ below (CQ D (some (.int o_r)) (w_X6_widestYear a0 q_olds q_youngs q_marshes cA s_count s_olds s_youngs s_marshes) A) args s 0 0 A) (F0 m 7 ls []) := by
  obtain ⟨hx, hb, hml, hown, hts, hr, hlocks, hX⟩ := C0
  have hK := hX.1
  have hN := hX.2
  intro k
  induction k with
  | zero =>
    intro x1 x2 x3 hf
    cases hf
  | succ k ih =>
    intro x1 x2 x3 hf H locs hP hD hS ls hl
    rw [f_X6_widestYear_7] at hf
    refine lv_iload_n hx hb dX6_widestYear_7 rfl (lv_at hl 3 rfl) ?_
    refine lv_aload_n hx hb dX6_widestYear_8 rfl (lv_at hl 0 rfl) ?_
    refine va_get (D := D) (ci := 6) (v := .int s_count) (C := RX6) (T := TX6) (N := 4) hx hb hts hn_X6_widestYear_X6 hown hK hP 0 rfl rfl 3 (by decide) (hts _ hw_X6_widestYear_f21) (fun _ h9 => h9) rfl dX6_widestYear_9 ?_
    refine lv_icmp_ge (tgt := 68) hx hb dX6_widestYear_12 (by decide) (fun c_1 => ?_) (fun c_1 => ?_)
    · have hf := pbr_t c_1 hf
      refine lv_iload_n hx hb dX6_widestYear_68 rfl (lv_at hl 1 rfl) ?_
      obtain rfl := pe1 hf
      exact m_iret hx hb hr hlocks hP hS dX6_widestYear_69
    have hf := pbr_f c_1 hf
    refine lv_aload_n hx hb dX6_widestYear_15 rfl (lv_at hl 0 rfl) ?_
    refine lv_aload_n hx hb dX6_widestYear_16 rfl (lv_at hl 0 rfl) ?_
    refine va_get (D := D) (ci := 6) (v := .ref q_olds) (C := RX6) (T := TX6) (N := 4) hx hb hts hn_X6_widestYear_X6 hown hK hP 0 rfl rfl 1 (by decide) (hts _ hw_X6_widestYear_f15) (fun _ h9 => h9) rfl dX6_widestYear_17 ?_
    refine lv_iload_n hx hb dX6_widestYear_20 rfl (lv_at hl 3 rfl) ?_
    obtain ⟨g_2, hf⟩ := pgd_e hf
    refine va_iald hx hb hK hP 1 1 rfl rfl g_2 dX6_widestYear_21 ?_
    obtain ⟨r_3, hc_4, hf⟩ := pcl_e hf
    refine m_callV2 (As := [.int (s_olds x3.toNatClampNeg)]) (rest := []) ⟨hx, hb, hml, hown, hts⟩ hX (ct_X6_marshesAt l D cA (s_olds x3.toNatClampNeg) a0 q_olds q_youngs q_marshes s_count s_olds s_youngs s_marshes r_3 hc_4) (cwV 1 hts gX6_widestYear_X6_marshesAt rfl rfl rfl (by decide +kernel) ⟨Nat.le_of_ble_eq_true rfl, Nat.le_of_ble_eq_true rfl⟩) hP hD hS hA [0, 1, 2, 3] [] 4 (by decide) rfl rfl (WS' := (w_X6_widestYear a0 q_olds q_youngs q_marshes cA s_count s_olds s_youngs s_marshes)) (WR := []) rfl rfl rfl rfl (by decide) (by decide) 0 6 rfl rfl rfl hl.1 rfl (st' := [.int r_3]) rfl (Nat.le_of_ble_eq_true rfl) ⟨Nat.zero_le _, Nat.zero_le _⟩ dX6_widestYear_22 (fun H locs hP hD hS => ?_)
    obtain ⟨r_5, hc_6, hf⟩ := pcl_e hf
    refine m_callS2 (As := [.int r_3]) (rest := []) ⟨hx, hb, hml, hown, hts⟩ hX (ct_J6_bitCount_0f7a4 l D cA r_3 r_5 hc_6) (va_cwS 1 hts gX6_widestYear_J6_bitCount_0f7a4 rfl rfl rfl (by decide +kernel) ⟨Nat.le_of_ble_eq_true rfl, Nat.le_of_ble_eq_true rfl⟩) hP hD hS hA [] [0, 1, 2, 3] 4 (by decide) rfl rfl (WS' := (w_X6_widestYear a0 q_olds q_youngs q_marshes cA s_count s_olds s_youngs s_marshes)) (WR := [(a0, .inr (6, [.ref q_marshes, .ref q_olds, .ref q_youngs, .int s_count])), (q_olds, .inl (cA 1, 12, .inl s_olds)), (q_youngs, .inl (cA 1, 12, .inl s_youngs)), (q_marshes, .inl (cA 1, 12, .inl s_marshes))]) rfl rfl rfl rfl (by decide) (by decide) rfl hl.1 rfl (st' := [.int r_5]) rfl (Nat.le_of_ble_eq_true rfl) ⟨Nat.zero_le _, Nat.zero_le _⟩ dX6_widestYear_25 (fun H locs hP hD hS => ?_)
    refine lv_istore (lv' := [(4, .int r_5), (0, .ref a0), (1, .int x1), (2, .int x2), (3, .int x3)]) hx hb dX6_widestYear_28 hl (by decide) rfl (fun ls hl => ?_)
    refine lv_iload hx hb dX6_widestYear_30 (lv_at hl 0 rfl) ?_
    refine lv_iload_n hx hb dX6_widestYear_32 rfl (lv_at hl 3 rfl) ?_
    refine lv_icmp_gt (tgt := 52) hx hb dX6_widestYear_33 (by decide) (fun c_7 => ?_) (fun c_7 => ?_)
    · have hf := pbr_t c_7 hf
      exact k_X6_widestYear_52 ⟨hx, hb, hml, hown, hts, hr, hlocks, hX⟩ hA ih x3 r_5 hf _ _ hP hD hS ls (lv_sub hl [1, 4, 0] rfl)
    have hf := pbr_f c_7 hf
    refine lv_iload hx hb dX6_widestYear_36 (lv_at hl 0 rfl) ?_
    refine lv_iload_n hx hb dX6_widestYear_38 rfl (lv_at hl 3 rfl) ?_
    refine lv_icmp_ne (tgt := 62) hx hb dX6_widestYear_39 (by decide) (fun c_8 => ?_) (fun c_8 => ?_)
    · have hf := pbr_f c_8 hf
      obtain ⟨x3_9, ex3_9⟩ : ∃ z : Int32, z = x3 + (1 : Int32) := ⟨_, rfl⟩
      have hf := plt_e ex3_9 hf
      refine lv_iinc (v := x3_9) (lv' := [(3, .int x3_9), (4, .int r_5), (0, .ref a0), (1, .int x1), (2, .int x2)]) hx hb dX6_widestYear_62 hl (k := 4) rfl (by rw [ex3_9]; rfl) (by decide) rfl (fun ls hl => ?_)
      refine lv_goto (tgt := 7) hx hb dX6_widestYear_65 (by decide) ?_
      exact ih x1 x2 x3_9 hf _ _ hP hD hS ls (lv_sub hl [2, 3, 4, 0] rfl)
    have hf := pbr_t c_8 hf
    refine lv_aload_n hx hb dX6_widestYear_42 rfl (lv_at hl 1 rfl) ?_
    refine va_get (D := D) (ci := 6) (v := .ref q_olds) (C := RX6) (T := TX6) (N := 4) hx hb hts hn_X6_widestYear_X6 hown hK hP 0 rfl rfl 1 (by decide) (hts _ hw_X6_widestYear_f15) (fun _ h9 => h9) rfl dX6_widestYear_43 ?_
    refine lv_iload_n hx hb dX6_widestYear_46 rfl (lv_at hl 4 rfl) ?_
    refine va_iald hx hb hK hP 1 1 rfl rfl g_2 dX6_widestYear_47 ?_
    refine lv_iload_n hx hb dX6_widestYear_48 rfl (lv_at hl 2 rfl) ?_
    refine lv_icmp_ge (tgt := 62) hx hb dX6_widestYear_49 (by decide) (fun c_10 => ?_) (fun c_10 => ?_)
    · have hf := pbr_t c_10 hf
      obtain ⟨x3_11, ex3_11⟩ : ∃ z : Int32, z = x3 + (1 : Int32) := ⟨_, rfl⟩
      have hf := plt_e ex3_11 hf
      refine lv_iinc (v := x3_11) (lv' := [(3, .int x3_11), (4, .int r_5), (0, .ref a0), (1, .int x1), (2, .int x2)]) hx hb dX6_widestYear_62 hl (k := 4) rfl (by rw [ex3_11]; rfl) (by decide) rfl (fun ls hl => ?_)
      refine lv_goto (tgt := 7) hx hb dX6_widestYear_65 (by decide) ?_
      exact ih x1 x2 x3_11 hf _ _ hP hD hS ls (lv_sub hl [2, 3, 4, 0] rfl)
    have hf := pbr_f c_10 hf
    exact k_X6_widestYear_52 ⟨hx, hb, hml, hown, hts, hr, hlocks, hX⟩ hA ih x3 r_5 hf _ _ hP hD hS ls (lv_sub hl [1, 4, 0] rfl)

def f_X6_widestYear (s_count : Int32) (s_olds : Nat → Int32) (s_youngs : Nat → Int32) (s_marshes : Nat → Int32) : Option ((Int32)) :=
  f_X6_widestYear_7 s_count s_olds s_youngs s_marshes FU (-9 : Int32) (0 : Int32) (0 : Int32)

set_option maxRecDepth 100000 in
set_option maxHeartbeats 4000000 in
theorem ct_X6_widestYear (l : Launch) (D : va_G) (cA : Nat → ClassId) (a0 : Nat) (q_olds : Nat) (q_youngs : Nat) (q_marshes : Nat) (s_count : Int32) (s_olds : Nat → Int32) (s_youngs : Nat → Int32) (s_marshes : Nat → Int32) (o_r : Int32) (hf : f_X6_widestYear s_count s_olds s_youngs s_marshes = some o_r) : CT l yX6_widestYear wsX6_widestYear rm_X6_widestYear D cA [.ref a0] (w_X6_widestYear a0 q_olds q_youngs q_marshes cA s_count s_olds s_youngs s_marshes) (w_X6_widestYear a0 q_olds q_youngs q_marshes cA s_count s_olds s_youngs s_marshes) (some (.int o_r)) := by
  refine CT.ofW (cc := cX6_widestYear) (maxL := 5) (ret := (some .int)) (by decide +kernel) rfl (Nat.le_of_ble_eq_true rfl) ?_
  intro p e s m below meth c A C0 hA hP hD ls hl
  have C0 : MX p s m [.ref a0].toArray meth c cX6_widestYear 5 wsX6_widestYear RX6 (some .int) D cA := C0
  have hl : lv_has ls 5 [(0, .ref a0)] := hl
  obtain ⟨hx, hb, hml, hown, hts, hr, hlocks, hX⟩ := id C0
  have hK := hX.1
  have hN := hX.2
  have hS : va_S A s.heap s.heap [] := va_S.rf
  unfold f_X6_widestYear at hf
  refine lv_bipush (v := (-9 : Int32)) hx hb dX6_widestYear_0 (by decide) ?_
  refine lv_istore_n (lv' := [(1, .int (-9 : Int32)), (0, .ref a0)]) hx hb dX6_widestYear_2 rfl hl (by decide) rfl (fun ls hl => ?_)
  refine lv_iconst (v := (0 : Int32)) hx hb dX6_widestYear_3 (by decide) ?_
  refine lv_istore_n (lv' := [(2, .int (0 : Int32)), (1, .int (-9 : Int32)), (0, .ref a0)]) hx hb dX6_widestYear_4 rfl hl (by decide) rfl (fun ls hl => ?_)
  refine lv_iconst (v := (0 : Int32)) hx hb dX6_widestYear_5 (by decide) ?_
  refine lv_istore_n (lv' := [(3, .int (0 : Int32)), (2, .int (0 : Int32)), (1, .int (-9 : Int32)), (0, .ref a0)]) hx hb dX6_widestYear_6 rfl hl (by decide) rfl (fun ls hl => ?_)
  exact k_X6_widestYear_7 C0 hA FU (-9 : Int32) (0 : Int32) (0 : Int32) hf _ _ hP hD hS ls (lv_sub hl [3, 2, 1, 0] rfl)
