/-! ===== OrphanWave$Trees.lastYear(II)I ===== -/
abbrev rm_X10_lastYear : Room := { frames := 0, cells := 0, slots := 0, locals := 0 }
abbrev w_X10_lastYear (a0 : Nat) (q_woodCounts : Nat) (q_livingRings : Nat) (q_woodRings : Nat) (q_ends : Nat) (cA : Nat → ClassId) (s_livingCount : Int32) (s_firstYear : Int32) (s_woodCounts : Nat → Int32) : va_W := [(a0, .inr (10, [.ref q_livingRings, .ref q_woodRings, .ref q_woodCounts, .ref q_ends, .int s_livingCount, .int s_firstYear])), (q_woodCounts, .inl (cA 1, 4, .inl s_woodCounts))]
theorem hn_X10_lastYear_X10 : ∀ w ∈ u_ws RX10 TX10 6, w ∈ wsX10_lastYear := by decide +kernel
theorem hw_X10_lastYear_f26 : Cond.fieldLink RX10 26 "OrphanWave$Trees" "firstYear" "I" ∈ wsX10_lastYear := by decide +kernel
theorem hw_X10_lastYear_f20 : Cond.fieldLink RX10 20 "OrphanWave$Trees" "woodCounts" "[I" ∈ wsX10_lastYear := by decide +kernel

def f_X10_lastYear (x1 : Int32) (x2 : Int32) (s_firstYear : Int32) (s_woodCounts : Nat → Int32) : Option ((Int32)) :=
  pgd (pin x1 4) (
  some ((((s_firstYear + x2) + (s_woodCounts x1.toNatClampNeg)) - (1 : Int32))))

set_option maxRecDepth 100000 in
set_option maxHeartbeats 4000000 in
theorem ct_X10_lastYear (l : Launch) (D : va_G) (cA : Nat → ClassId) (x1 : Int32) (x2 : Int32) (a0 : Nat) (q_woodCounts : Nat) (q_livingRings : Nat) (q_woodRings : Nat) (q_ends : Nat) (s_livingCount : Int32) (s_firstYear : Int32) (s_woodCounts : Nat → Int32) (o_r : Int32) (hf : f_X10_lastYear x1 x2 s_firstYear s_woodCounts = some o_r) : CT l yX10_lastYear wsX10_lastYear rm_X10_lastYear D cA [.ref a0, .int x1, .int x2] (w_X10_lastYear a0 q_woodCounts q_livingRings q_woodRings q_ends cA s_livingCount s_firstYear s_woodCounts) (w_X10_lastYear a0 q_woodCounts q_livingRings q_woodRings q_ends cA s_livingCount s_firstYear s_woodCounts) (some (.int o_r)) := by
  refine CT.ofW (cc := cX10_lastYear) (maxL := 3) (ret := (some .int)) (by decide +kernel) rfl (Nat.le_of_ble_eq_true rfl) ?_
  intro p e s m below meth c A C0 hA hP hD ls hl
  have C0 : MX p s m [.ref a0, .int x1, .int x2].toArray meth c cX10_lastYear 3 wsX10_lastYear RX10 (some .int) D cA := C0
  have hl : lv_has ls 3 [(0, .ref a0), (1, .int x1), (2, .int x2)] := hl
  obtain ⟨hx, hb, hml, hown, hts, hr, hlocks, hX⟩ := id C0
  have hK := hX.1
  have hN := hX.2
  have hS : va_S A s.heap s.heap [] := va_S.rf
  unfold f_X10_lastYear at hf
  refine lv_aload_n hx hb dX10_lastYear_0 rfl (lv_at hl 0 rfl) ?_
  refine va_get (D := D) (ci := 10) (v := .int s_firstYear) (C := RX10) (T := TX10) (N := 6) hx hb hts hn_X10_lastYear_X10 hown hK hP 0 rfl rfl 5 (by decide) (hts _ hw_X10_lastYear_f26) (fun _ h9 => h9) rfl dX10_lastYear_1 ?_
  refine lv_iload_n hx hb dX10_lastYear_4 rfl (lv_at hl 2 rfl) ?_
  refine lv_iadd hx hb dX10_lastYear_5 ?_
  refine lv_aload_n hx hb dX10_lastYear_6 rfl (lv_at hl 0 rfl) ?_
  refine va_get (D := D) (ci := 10) (v := .ref q_woodCounts) (C := RX10) (T := TX10) (N := 6) hx hb hts hn_X10_lastYear_X10 hown hK hP 0 rfl rfl 2 (by decide) (hts _ hw_X10_lastYear_f20) (fun _ h9 => h9) rfl dX10_lastYear_7 ?_
  refine lv_iload_n hx hb dX10_lastYear_10 rfl (lv_at hl 1 rfl) ?_
  obtain ⟨g_1, hf⟩ := pgd_e hf
  refine va_iald hx hb hK hP 1 1 rfl rfl g_1 dX10_lastYear_11 ?_
  refine lv_iadd hx hb dX10_lastYear_12 ?_
  refine lv_iconst (v := (1 : Int32)) hx hb dX10_lastYear_13 (by decide) ?_
  refine lv_isub hx hb dX10_lastYear_14 ?_
  obtain rfl := pe1 hf
  exact m_iret hx hb hr hlocks hP hS dX10_lastYear_15

/-! ===== OrphanWave$Trees.sharedDeath()I ===== -/
abbrev rm_X10_sharedDeath : Room := { frames := 3, cells := 0, slots := 0, locals := 71 }
abbrev wx_X10_sharedDeath (a0 : Nat) (q_woodCounts : Nat) (q_livingRings : Nat) (q_ends : Nat) (q_woodRings : Nat) (r_woodRings : Nat → Nat) (cA : Nat → ClassId) (s_livingCount : Int32) (s_firstYear : Int32) (s_woodCounts : Nat → Int32) (s_livingRings : Nat → Int32) (s_ends : Nat → Int32) (s_woodRings : Nat → Nat → Int32) : va_W := [(a0, .inr (10, [.ref q_livingRings, .ref q_woodRings, .ref q_woodCounts, .ref q_ends, .int s_livingCount, .int s_firstYear])), (q_woodCounts, .inl (cA 1, 4, .inl s_woodCounts)), (q_livingRings, .inl (cA 1, 60, .inl s_livingRings)), (q_ends, .inl (cA 1, 4, .inl s_ends)), (q_woodRings, .inl (cA 5, 4, .inr (.inr (.inr (.inr (gro 4 r_woodRings))))))]
abbrev w_X10_sharedDeath (a0 : Nat) (q_woodCounts : Nat) (q_livingRings : Nat) (q_ends : Nat) (q_woodRings : Nat) (r_woodRings : Nat → Nat) (cA : Nat → ClassId) (s_livingCount : Int32) (s_firstYear : Int32) (s_woodCounts : Nat → Int32) (s_livingRings : Nat → Int32) (s_ends : Nat → Int32) (s_woodRings : Nat → Nat → Int32) : va_W := [(a0, .inr (10, [.ref q_livingRings, .ref q_woodRings, .ref q_woodCounts, .ref q_ends, .int s_livingCount, .int s_firstYear])), (q_woodCounts, .inl (cA 1, 4, .inl s_woodCounts)), (q_livingRings, .inl (cA 1, 60, .inl s_livingRings)), (q_ends, .inl (cA 1, 4, .inl s_ends)), (q_woodRings, .inl (cA 5, 4, .inr (.inr (.inr (.inr (gro 4 r_woodRings))))))] ++ grw 4 r_woodRings (cA 1) 30 s_woodRings
theorem hn_X10_sharedDeath_X10 : ∀ w ∈ u_ws RX10 TX10 6, w ∈ wsX10_sharedDeath := by decide +kernel
theorem hw_X10_sharedDeath_f23 : Cond.fieldLink RX10 23 "OrphanWave$Trees" "ends" "[I" ∈ wsX10_sharedDeath := by decide +kernel

def f_X10_sharedDeath_8 (s_livingCount : Int32) (s_firstYear : Int32) (s_woodCounts : Nat → Int32) (s_livingRings : Nat → Int32) (s_ends : Nat → Int32) (s_woodRings : Nat → Nat → Int32) : Nat → (Int32) → (Int32) → (Int32) → Option ((Int32))
  | 0, _, _, _ => none
  | k + 1, x1, x2, x3 =>
    pbr ((4 : Int32) ≤ x3)
      (some (x1))
      (pcl (f_X10_laidOn x3 s_livingCount s_woodCounts s_livingRings s_woodRings) (fun r_2 => (
      pbr (r_2 = (-9 : Int32))
        (plt (x3 + (1 : Int32) : Int32) (fun x3_17 => (
        (f_X10_sharedDeath_8 s_livingCount s_firstYear s_woodCounts s_livingRings s_ends s_woodRings k) x1 x2 x3_17)))
        (pbr (x1 = (-9 : Int32))
          (pcl (f_X10_lastYear x3 r_2 s_firstYear s_woodCounts) (fun r_12 => (
          pgd (pin x3 4) (
          plt ((s_ends x3.toNatClampNeg) : Int32) (fun x2_15 => (
          plt (x3 + (1 : Int32) : Int32) (fun x3_16 => (
          (f_X10_sharedDeath_8 s_livingCount s_firstYear s_woodCounts s_livingRings s_ends s_woodRings k) r_12 x2_15 x3_16))))))))
          (pcl (f_X10_lastYear x3 r_2 s_firstYear s_woodCounts) (fun r_6 => (
          pbr (x1 = r_6)
            (pgd (pin x3 4) (
            pbr (x2 = (s_ends x3.toNatClampNeg))
              (plt (x3 + (1 : Int32) : Int32) (fun x3_11 => (
              (f_X10_sharedDeath_8 s_livingCount s_firstYear s_woodCounts s_livingRings s_ends s_woodRings k) x1 x2 x3_11)))
              (some ((-9 : Int32)))))
            (some ((-9 : Int32))))))))))

set_option maxRecDepth 100000 in
set_option maxHeartbeats 4000000 in
theorem k_X10_sharedDeath_8 {p : Program} {l : Launch} {e : Env} {s : State} {m : MethodId} {args : Array Value} {below : List Frame} {meth : Method} {c : Code} {A : Nat → Prop} {D : va_G} {cA : Nat → ClassId} (C0 : MX p s m args meth c cX10_sharedDeath 5 wsX10_sharedDeath RX10 (some .int) D cA) (hA : ∀ q, s.heap.size ≤ q → A q) {a0 : Nat} {q_woodCounts : Nat} {q_livingRings : Nat} {q_ends : Nat} {q_woodRings : Nat} {r_woodRings : Nat → Nat} {s_livingCount : Int32} {s_firstYear : Int32} {s_woodCounts : Nat → Int32} {s_livingRings : Nat → Int32} {s_ends : Nat → Int32} {s_woodRings : Nat → Nat → Int32} {o_r : Int32} : ∀ (k : Nat) (x1 : Int32) (x2 : Int32) (x3 : Int32), f_X10_sharedDeath_8 s_livingCount s_firstYear s_woodCounts s_livingRings s_ends s_woodRings k x1 x2 x3 = some o_r → ∀ (H : Heap) (locs : List Loc), va_P D vwCl (w_X10_sharedDeath a0 q_woodCounts q_livingRings q_ends q_woodRings r_woodRings cA s_livingCount s_firstYear s_woodCounts s_livingRings s_ends s_woodRings) H → va_D A (w_X10_sharedDeath a0 q_woodCounts q_livingRings q_ends q_woodRings r_woodRings cA s_livingCount s_firstYear s_woodCounts s_livingRings s_ends s_woodRings) → va_S A s.heap H locs → ∀ ls : Array Slot, lv_has ls 5 [(0, .ref a0), (1, .int x1), (2, .int x2), (3, .int x3)] → W p l e rm_X10_sharedDeath s m args below meth c H locs 0 0 (MQ below (CQ D (some (.int o_r)) (w_X10_sharedDeath a0 q_woodCounts q_livingRings q_ends q_woodRings r_woodRings cA s_livingCount s_firstYear s_woodCounts s_livingRings s_ends s_woodRings) A) args s 0 0 A) (F0 m 8 ls []) := by
  obtain ⟨hx, hb, hml, hown, hts, hr, hlocks, hX⟩ := C0
  have hK := hX.1
  have hN := hX.2
  intro k
  induction k with
  | zero =>
    intro x1 x2 x3 hf
    cases hf
  | succ k ih =>
    intro x1 x2 x3 hf H locs hP hD hS ls hl
    rw [f_X10_sharedDeath_8] at hf
    refine lv_iload_n hx hb dX10_sharedDeath_8 rfl (lv_at hl 3 rfl) ?_
    refine lv_iconst (v := (4 : Int32)) hx hb dX10_sharedDeath_9 (by decide) ?_
    refine lv_icmp_ge (tgt := 84) hx hb dX10_sharedDeath_10 (by decide) (fun c_1 => ?_) (fun c_1 => ?_)
    · have hf := pbr_t c_1 hf
      refine lv_iload_n hx hb dX10_sharedDeath_84 rfl (lv_at hl 1 rfl) ?_
      obtain rfl := pe1 hf
      exact m_iret hx hb hr hlocks hP hS dX10_sharedDeath_85
    have hf := pbr_f c_1 hf
    refine lv_aload_n hx hb dX10_sharedDeath_13 rfl (lv_at hl 0 rfl) ?_
    refine lv_iload_n hx hb dX10_sharedDeath_14 rfl (lv_at hl 3 rfl) ?_
    obtain ⟨r_2, hc_3, hf⟩ := pcl_e hf
    refine m_callV2 (As := [.int x3]) (rest := []) ⟨hx, hb, hml, hown, hts⟩ hX (ct_X10_laidOn l D cA x3 a0 q_woodCounts q_livingRings q_woodRings q_ends r_woodRings s_livingCount s_firstYear s_woodCounts s_livingRings s_woodRings r_2 hc_3) (cwV 1 hts gX10_sharedDeath_X10_laidOn rfl rfl rfl (by decide +kernel) ⟨Nat.le_of_ble_eq_true rfl, Nat.le_of_ble_eq_true rfl⟩) hP hD hS hA [0, 1, 2, 4, 5, 6, 7, 8] [3] 9 (by decide) rfl rfl (WS' := (w_X10_sharedDeath a0 q_woodCounts q_livingRings q_ends q_woodRings r_woodRings cA s_livingCount s_firstYear s_woodCounts s_livingRings s_ends s_woodRings)) (WR := [(q_ends, .inl (cA 1, 4, .inl s_ends))]) rfl rfl rfl rfl (by decide) (by decide) 0 10 rfl rfl rfl hl.1 rfl (st' := [.int r_2]) rfl (Nat.le_of_ble_eq_true rfl) ⟨Nat.zero_le _, Nat.zero_le _⟩ dX10_sharedDeath_15 (fun H locs hP hD hS => ?_)
    refine lv_istore (lv' := [(4, .int r_2), (0, .ref a0), (1, .int x1), (2, .int x2), (3, .int x3)]) hx hb dX10_sharedDeath_18 hl (by decide) rfl (fun ls hl => ?_)
    refine lv_iload hx hb dX10_sharedDeath_20 (lv_at hl 0 rfl) ?_
    refine lv_bipush (v := (-9 : Int32)) hx hb dX10_sharedDeath_22 (by decide) ?_
    refine lv_icmp_ne (tgt := 30) hx hb dX10_sharedDeath_24 (by decide) (fun c_4 => ?_) (fun c_4 => ?_)
    · have hf := pbr_f c_4 hf
      refine lv_iload_n hx hb dX10_sharedDeath_30 rfl (lv_at hl 2 rfl) ?_
      refine lv_bipush (v := (-9 : Int32)) hx hb dX10_sharedDeath_31 (by decide) ?_
      refine lv_icmp_ne (tgt := 54) hx hb dX10_sharedDeath_33 (by decide) (fun c_5 => ?_) (fun c_5 => ?_)
      · have hf := pbr_f c_5 hf
        refine lv_iload_n hx hb dX10_sharedDeath_54 rfl (lv_at hl 2 rfl) ?_
        refine lv_aload_n hx hb dX10_sharedDeath_55 rfl (lv_at hl 1 rfl) ?_
        refine lv_iload_n hx hb dX10_sharedDeath_56 rfl (lv_at hl 4 rfl) ?_
        refine lv_iload hx hb dX10_sharedDeath_57 (lv_at hl 0 rfl) ?_
        obtain ⟨r_6, hc_7, hf⟩ := pcl_e hf
        refine m_callV2 (As := [.int x3, .int r_2]) (rest := [.int x1]) ⟨hx, hb, hml, hown, hts⟩ hX (ct_X10_lastYear l D cA x3 r_2 a0 q_woodCounts q_livingRings q_woodRings q_ends s_livingCount s_firstYear s_woodCounts r_6 hc_7) (cwV 2 hts gX10_sharedDeath_X10_lastYear rfl rfl rfl (by decide +kernel) ⟨Nat.le_of_ble_eq_true rfl, Nat.le_of_ble_eq_true rfl⟩) hP hD hS hA [0, 1] [2, 3, 4, 5, 6, 7, 8] 9 (by decide) rfl rfl (WS' := (w_X10_sharedDeath a0 q_woodCounts q_livingRings q_ends q_woodRings r_woodRings cA s_livingCount s_firstYear s_woodCounts s_livingRings s_ends s_woodRings)) (WR := [(q_livingRings, .inl (cA 1, 60, .inl s_livingRings)), (q_ends, .inl (cA 1, 4, .inl s_ends)), (q_woodRings, .inl (cA 5, 4, .inr (.inr (.inr (.inr (gro 4 r_woodRings))))))] ++ grw 4 r_woodRings (cA 1) 30 s_woodRings) rfl rfl rfl rfl (by decide) (by decide) 0 10 rfl rfl rfl hl.1 rfl (st' := [.int r_6, .int x1]) rfl (Nat.le_of_ble_eq_true rfl) ⟨Nat.zero_le _, Nat.zero_le _⟩ dX10_sharedDeath_59 (fun H locs hP hD hS => ?_)
        refine lv_icmp_ne (tgt := 75) hx hb dX10_sharedDeath_62 (by decide) (fun c_8 => ?_) (fun c_8 => ?_)
        · have hf := pbr_f c_8 hf
          refine lv_bipush (v := (-9 : Int32)) hx hb dX10_sharedDeath_75 (by decide) ?_
          obtain rfl := pe1 hf
          exact m_iret hx hb hr hlocks hP hS dX10_sharedDeath_77
        have hf := pbr_t c_8 hf
        refine lv_iload_n hx hb dX10_sharedDeath_65 rfl (lv_at hl 3 rfl) ?_
        refine lv_aload_n hx hb dX10_sharedDeath_66 rfl (lv_at hl 1 rfl) ?_
        refine va_get (D := D) (ci := 10) (v := .ref q_ends) (C := RX10) (T := TX10) (N := 6) hx hb hts hn_X10_sharedDeath_X10 hown hK hP 0 rfl rfl 3 (by decide) (hts _ hw_X10_sharedDeath_f23) (fun _ h9 => h9) rfl dX10_sharedDeath_67 ?_
        refine lv_iload_n hx hb dX10_sharedDeath_70 rfl (lv_at hl 4 rfl) ?_
        obtain ⟨g_9, hf⟩ := pgd_e hf
        refine va_iald hx hb hK hP 3 1 rfl rfl g_9 dX10_sharedDeath_71 ?_
        refine lv_icmp_eq (tgt := 78) hx hb dX10_sharedDeath_72 (by decide) (fun c_10 => ?_) (fun c_10 => ?_)
        · have hf := pbr_t c_10 hf
          obtain ⟨x3_11, ex3_11⟩ : ∃ z : Int32, z = x3 + (1 : Int32) := ⟨_, rfl⟩
          have hf := plt_e ex3_11 hf
          refine lv_iinc (v := x3_11) (lv' := [(3, .int x3_11), (4, .int r_2), (0, .ref a0), (1, .int x1), (2, .int x2)]) hx hb dX10_sharedDeath_78 hl (k := 4) rfl (by rw [ex3_11]; rfl) (by decide) rfl (fun ls hl => ?_)
          refine lv_goto (tgt := 8) hx hb dX10_sharedDeath_81 (by decide) ?_
          exact ih x1 x2 x3_11 hf _ _ hP hD hS ls (lv_sub hl [2, 3, 4, 0] rfl)
        have hf := pbr_f c_10 hf
        refine lv_bipush (v := (-9 : Int32)) hx hb dX10_sharedDeath_75 (by decide) ?_
        obtain rfl := pe1 hf
        exact m_iret hx hb hr hlocks hP hS dX10_sharedDeath_77
      have hf := pbr_t c_5 hf
      refine lv_aload_n hx hb dX10_sharedDeath_36 rfl (lv_at hl 1 rfl) ?_
      refine lv_iload_n hx hb dX10_sharedDeath_37 rfl (lv_at hl 4 rfl) ?_
      refine lv_iload hx hb dX10_sharedDeath_38 (lv_at hl 0 rfl) ?_
      obtain ⟨r_12, hc_13, hf⟩ := pcl_e hf
      refine m_callV2 (As := [.int x3, .int r_2]) (rest := []) ⟨hx, hb, hml, hown, hts⟩ hX (ct_X10_lastYear l D cA x3 r_2 a0 q_woodCounts q_livingRings q_woodRings q_ends s_livingCount s_firstYear s_woodCounts r_12 hc_13) (cwV 2 hts gX10_sharedDeath_X10_lastYear rfl rfl rfl (by decide +kernel) ⟨Nat.le_of_ble_eq_true rfl, Nat.le_of_ble_eq_true rfl⟩) hP hD hS hA [0, 1] [2, 3, 4, 5, 6, 7, 8] 9 (by decide) rfl rfl (WS' := (w_X10_sharedDeath a0 q_woodCounts q_livingRings q_ends q_woodRings r_woodRings cA s_livingCount s_firstYear s_woodCounts s_livingRings s_ends s_woodRings)) (WR := [(q_livingRings, .inl (cA 1, 60, .inl s_livingRings)), (q_ends, .inl (cA 1, 4, .inl s_ends)), (q_woodRings, .inl (cA 5, 4, .inr (.inr (.inr (.inr (gro 4 r_woodRings))))))] ++ grw 4 r_woodRings (cA 1) 30 s_woodRings) rfl rfl rfl rfl (by decide) (by decide) 0 10 rfl rfl rfl hl.1 rfl (st' := [.int r_12]) rfl (Nat.le_of_ble_eq_true rfl) ⟨Nat.zero_le _, Nat.zero_le _⟩ dX10_sharedDeath_40 (fun H locs hP hD hS => ?_)
      refine lv_istore_n (lv' := [(1, .int r_12), (4, .int r_2), (0, .ref a0), (2, .int x2), (3, .int x3)]) hx hb dX10_sharedDeath_43 rfl hl (by decide) rfl (fun ls hl => ?_)
      refine lv_aload_n hx hb dX10_sharedDeath_44 rfl (lv_at hl 2 rfl) ?_
      refine va_get (D := D) (ci := 10) (v := .ref q_ends) (C := RX10) (T := TX10) (N := 6) hx hb hts hn_X10_sharedDeath_X10 hown hK hP 0 rfl rfl 3 (by decide) (hts _ hw_X10_sharedDeath_f23) (fun _ h9 => h9) rfl dX10_sharedDeath_45 ?_
      refine lv_iload_n hx hb dX10_sharedDeath_48 rfl (lv_at hl 4 rfl) ?_
      obtain ⟨g_14, hf⟩ := pgd_e hf
      refine va_iald hx hb hK hP 3 1 rfl rfl g_14 dX10_sharedDeath_49 ?_
      refine lv_topi (fun x2_15 ex2_15 => ?_)
      have hf := plt_e ex2_15 hf
      refine lv_istore_n (lv' := [(2, .int x2_15), (1, .int r_12), (4, .int r_2), (0, .ref a0), (3, .int x3)]) hx hb dX10_sharedDeath_50 rfl hl (by decide) rfl (fun ls hl => ?_)
      refine lv_goto (tgt := 78) hx hb dX10_sharedDeath_51 (by decide) ?_
      obtain ⟨x3_16, ex3_16⟩ : ∃ z : Int32, z = x3 + (1 : Int32) := ⟨_, rfl⟩
      have hf := plt_e ex3_16 hf
      refine lv_iinc (v := x3_16) (lv' := [(3, .int x3_16), (2, .int x2_15), (1, .int r_12), (4, .int r_2), (0, .ref a0)]) hx hb dX10_sharedDeath_78 hl (k := 4) rfl (by rw [ex3_16]; rfl) (by decide) rfl (fun ls hl => ?_)
      refine lv_goto (tgt := 8) hx hb dX10_sharedDeath_81 (by decide) ?_
      exact ih r_12 x2_15 x3_16 hf _ _ hP hD hS ls (lv_sub hl [4, 2, 1, 0] rfl)
    have hf := pbr_t c_4 hf
    refine lv_goto (tgt := 78) hx hb dX10_sharedDeath_27 (by decide) ?_
    obtain ⟨x3_17, ex3_17⟩ : ∃ z : Int32, z = x3 + (1 : Int32) := ⟨_, rfl⟩
    have hf := plt_e ex3_17 hf
    refine lv_iinc (v := x3_17) (lv' := [(3, .int x3_17), (4, .int r_2), (0, .ref a0), (1, .int x1), (2, .int x2)]) hx hb dX10_sharedDeath_78 hl (k := 4) rfl (by rw [ex3_17]; rfl) (by decide) rfl (fun ls hl => ?_)
    refine lv_goto (tgt := 8) hx hb dX10_sharedDeath_81 (by decide) ?_
    exact ih x1 x2 x3_17 hf _ _ hP hD hS ls (lv_sub hl [2, 3, 4, 0] rfl)

def f_X10_sharedDeath (s_livingCount : Int32) (s_firstYear : Int32) (s_woodCounts : Nat → Int32) (s_livingRings : Nat → Int32) (s_ends : Nat → Int32) (s_woodRings : Nat → Nat → Int32) : Option ((Int32)) :=
  f_X10_sharedDeath_8 s_livingCount s_firstYear s_woodCounts s_livingRings s_ends s_woodRings FU (-9 : Int32) (-9 : Int32) (0 : Int32)

set_option maxRecDepth 100000 in
set_option maxHeartbeats 4000000 in
theorem ct_X10_sharedDeath (l : Launch) (D : va_G) (cA : Nat → ClassId) (a0 : Nat) (q_woodCounts : Nat) (q_livingRings : Nat) (q_ends : Nat) (q_woodRings : Nat) (r_woodRings : Nat → Nat) (s_livingCount : Int32) (s_firstYear : Int32) (s_woodCounts : Nat → Int32) (s_livingRings : Nat → Int32) (s_ends : Nat → Int32) (s_woodRings : Nat → Nat → Int32) (o_r : Int32) (hf : f_X10_sharedDeath s_livingCount s_firstYear s_woodCounts s_livingRings s_ends s_woodRings = some o_r) : CT l yX10_sharedDeath wsX10_sharedDeath rm_X10_sharedDeath D cA [.ref a0] (w_X10_sharedDeath a0 q_woodCounts q_livingRings q_ends q_woodRings r_woodRings cA s_livingCount s_firstYear s_woodCounts s_livingRings s_ends s_woodRings) (w_X10_sharedDeath a0 q_woodCounts q_livingRings q_ends q_woodRings r_woodRings cA s_livingCount s_firstYear s_woodCounts s_livingRings s_ends s_woodRings) (some (.int o_r)) := by
  refine CT.ofW (cc := cX10_sharedDeath) (maxL := 5) (ret := (some .int)) (by decide +kernel) rfl (Nat.le_of_ble_eq_true rfl) ?_
  intro p e s m below meth c A C0 hA hP hD ls hl
  have C0 : MX p s m [.ref a0].toArray meth c cX10_sharedDeath 5 wsX10_sharedDeath RX10 (some .int) D cA := C0
  have hl : lv_has ls 5 [(0, .ref a0)] := hl
  obtain ⟨hx, hb, hml, hown, hts, hr, hlocks, hX⟩ := id C0
  have hK := hX.1
  have hN := hX.2
  have hS : va_S A s.heap s.heap [] := va_S.rf
  unfold f_X10_sharedDeath at hf
  refine lv_bipush (v := (-9 : Int32)) hx hb dX10_sharedDeath_0 (by decide) ?_
  refine lv_istore_n (lv' := [(1, .int (-9 : Int32)), (0, .ref a0)]) hx hb dX10_sharedDeath_2 rfl hl (by decide) rfl (fun ls hl => ?_)
  refine lv_bipush (v := (-9 : Int32)) hx hb dX10_sharedDeath_3 (by decide) ?_
  refine lv_istore_n (lv' := [(2, .int (-9 : Int32)), (1, .int (-9 : Int32)), (0, .ref a0)]) hx hb dX10_sharedDeath_5 rfl hl (by decide) rfl (fun ls hl => ?_)
  refine lv_iconst (v := (0 : Int32)) hx hb dX10_sharedDeath_6 (by decide) ?_
  refine lv_istore_n (lv' := [(3, .int (0 : Int32)), (2, .int (-9 : Int32)), (1, .int (-9 : Int32)), (0, .ref a0)]) hx hb dX10_sharedDeath_7 rfl hl (by decide) rfl (fun ls hl => ?_)
  exact k_X10_sharedDeath_8 C0 hA FU (-9 : Int32) (-9 : Int32) (0 : Int32) hf _ _ hP hD hS ls (lv_sub hl [3, 2, 1, 0] rfl)
