/-! ===== OrphanWave$KnownSlips.isLater(I)Z ===== -/
abbrev rm_X3_isLater : Room := { frames := 0, cells := 0, slots := 0, locals := 0 }
abbrev w_X3_isLater (a0 : Nat) (q_years : Nat) (cA : Nat → ClassId) (s_count : Int32) (s_years : Nat → Int32) : va_W := [(a0, .inr (3, [.ref q_years, .int s_count])), (q_years, .inl (cA 1, 16, .inl s_years))]
theorem hn_X3_isLater_X3 : ∀ w ∈ u_ws RX3 TX3 2, w ∈ wsX3_isLater := by decide +kernel
theorem hw_X3_isLater_f15 : Cond.fieldLink RX3 15 "OrphanWave$KnownSlips" "count" "I" ∈ wsX3_isLater := by decide +kernel
theorem hw_X3_isLater_f9 : Cond.fieldLink RX3 9 "OrphanWave$KnownSlips" "years" "[I" ∈ wsX3_isLater := by decide +kernel

def f_X3_isLater (x1 : Int32) (s_count : Int32) (s_years : Nat → Int32) : Option ((Int32)) :=
  pbr (s_count = 0)
    (some ((1 : Int32)))
    (pgd (pin (s_count - (1 : Int32)) 16) (
    pbr (x1 ≤ (s_years (s_count - (1 : Int32)).toNatClampNeg))
      (some ((0 : Int32)))
      (some ((1 : Int32)))))

set_option maxRecDepth 100000 in
set_option maxHeartbeats 4000000 in
theorem ct_X3_isLater (l : Launch) (D : va_G) (cA : Nat → ClassId) (x1 : Int32) (a0 : Nat) (q_years : Nat) (s_count : Int32) (s_years : Nat → Int32) (o_r : Int32) (hf : f_X3_isLater x1 s_count s_years = some o_r) : CT l yX3_isLater wsX3_isLater rm_X3_isLater D cA [.ref a0, .int x1] (w_X3_isLater a0 q_years cA s_count s_years) (w_X3_isLater a0 q_years cA s_count s_years) (some (.int o_r)) := by
  refine CT.ofW (cc := cX3_isLater) (maxL := 2) (ret := (some .boolean)) (by decide +kernel) rfl (Nat.le_of_ble_eq_true rfl) ?_
  intro p e s m below meth c A C0 hA hP hD ls hl
  have C0 : MX p s m [.ref a0, .int x1].toArray meth c cX3_isLater 2 wsX3_isLater RX3 (some .boolean) D cA := C0
  have hl : lv_has ls 2 [(0, .ref a0), (1, .int x1)] := hl
  obtain ⟨hx, hb, hml, hown, hts, hr, hlocks, hX⟩ := id C0
  have hK := hX.1
  have hN := hX.2
  have hS : va_S A s.heap s.heap [] := va_S.rf
  unfold f_X3_isLater at hf
  refine lv_aload_n hx hb dX3_isLater_0 rfl (lv_at hl 0 rfl) ?_
  refine va_get (D := D) (ci := 3) (v := .int s_count) (C := RX3) (T := TX3) (N := 2) hx hb hts hn_X3_isLater_X3 hown hK hP 0 rfl rfl 1 (by decide) (hts _ hw_X3_isLater_f15) (fun _ h9 => h9) rfl dX3_isLater_1 ?_
  refine lv_if_eq (tgt := 22) hx hb dX3_isLater_4 (by decide) (fun c_1 => ?_) (fun c_1 => ?_)
  · have hf := pbr_t c_1 hf
    refine lv_iconst (v := (1 : Int32)) hx hb dX3_isLater_22 (by decide) ?_
    refine lv_goto (tgt := 27) hx hb dX3_isLater_23 (by decide) ?_
    obtain rfl := pe1 hf
    exact m_zret (by decide) hx hb hr hlocks hP hS dX3_isLater_27
  have hf := pbr_f c_1 hf
  refine lv_iload_n hx hb dX3_isLater_7 rfl (lv_at hl 1 rfl) ?_
  refine lv_aload_n hx hb dX3_isLater_8 rfl (lv_at hl 0 rfl) ?_
  refine va_get (D := D) (ci := 3) (v := .ref q_years) (C := RX3) (T := TX3) (N := 2) hx hb hts hn_X3_isLater_X3 hown hK hP 0 rfl rfl 0 (by decide) (hts _ hw_X3_isLater_f9) (fun _ h9 => h9) rfl dX3_isLater_9 ?_
  refine lv_aload_n hx hb dX3_isLater_12 rfl (lv_at hl 0 rfl) ?_
  refine va_get (D := D) (ci := 3) (v := .int s_count) (C := RX3) (T := TX3) (N := 2) hx hb hts hn_X3_isLater_X3 hown hK hP 0 rfl rfl 1 (by decide) (hts _ hw_X3_isLater_f15) (fun _ h9 => h9) rfl dX3_isLater_13 ?_
  refine lv_iconst (v := (1 : Int32)) hx hb dX3_isLater_16 (by decide) ?_
  refine lv_isub hx hb dX3_isLater_17 ?_
  obtain ⟨g_2, hf⟩ := pgd_e hf
  refine va_iald hx hb hK hP 1 1 rfl rfl g_2 dX3_isLater_18 ?_
  refine lv_icmp_le (tgt := 26) hx hb dX3_isLater_19 (by decide) (fun c_3 => ?_) (fun c_3 => ?_)
  · have hf := pbr_t c_3 hf
    refine lv_iconst (v := (0 : Int32)) hx hb dX3_isLater_26 (by decide) ?_
    obtain rfl := pe1 hf
    exact m_zret (by decide) hx hb hr hlocks hP hS dX3_isLater_27
  have hf := pbr_f c_3 hf
  refine lv_iconst (v := (1 : Int32)) hx hb dX3_isLater_22 (by decide) ?_
  refine lv_goto (tgt := 27) hx hb dX3_isLater_23 (by decide) ?_
  obtain rfl := pe1 hf
  exact m_zret (by decide) hx hb hr hlocks hP hS dX3_isLater_27

/-! ===== OrphanWave$KnownSlips.add(I)I ===== -/
abbrev rm_X3_add : Room := { frames := 0, cells := 0, slots := 0, locals := 0 }
abbrev w_X3_add (a0 : Nat) (q_years : Nat) (cA : Nat → ClassId) (s_count : Int32) (s_years : Nat → Int32) : va_W := [(a0, .inr (3, [.ref q_years, .int s_count])), (q_years, .inl (cA 1, 16, .inl s_years))]
theorem hn_X3_add_X3 : ∀ w ∈ u_ws RX3 TX3 2, w ∈ wsX3_add := by decide +kernel
theorem hw_X3_add_f9 : Cond.fieldLink RX3 9 "OrphanWave$KnownSlips" "years" "[I" ∈ wsX3_add := by decide +kernel
theorem hw_X3_add_f15 : Cond.fieldLink RX3 15 "OrphanWave$KnownSlips" "count" "I" ∈ wsX3_add := by decide +kernel

def f_X3_add (x1 : Int32) (s_count : Int32) (s_years : Nat → Int32) : Option ((Int32) × (Int32) × (Nat → Int32)) :=
  plt ((s_count + (1 : Int32)) : Int32) (fun count_1 => (
  pgd (pin s_count 16) (
  plt (upd s_years s_count.toNatClampNeg x1 : Nat → Int32) (fun f_3 => (
  some (count_1, count_1, f_3))))))

set_option maxRecDepth 100000 in
set_option maxHeartbeats 4000000 in
theorem ct_X3_add (l : Launch) (D : va_G) (cA : Nat → ClassId) (x1 : Int32) (a0 : Nat) (q_years : Nat) (s_count : Int32) (s_years : Nat → Int32) (o_r : Int32) (o_count : Int32) (o_years : Nat → Int32) (hf : f_X3_add x1 s_count s_years = some (o_r, o_count, o_years)) : CT l yX3_add wsX3_add rm_X3_add D cA [.ref a0, .int x1] (w_X3_add a0 q_years cA s_count s_years) (w_X3_add a0 q_years cA o_count o_years) (some (.int o_r)) := by
  refine CT.ofW (cc := cX3_add) (maxL := 2) (ret := (some .int)) (by decide +kernel) rfl (Nat.le_of_ble_eq_true rfl) ?_
  intro p e s m below meth c A C0 hA hP hD ls hl
  have C0 : MX p s m [.ref a0, .int x1].toArray meth c cX3_add 2 wsX3_add RX3 (some .int) D cA := C0
  have hl : lv_has ls 2 [(0, .ref a0), (1, .int x1)] := hl
  obtain ⟨hx, hb, hml, hown, hts, hr, hlocks, hX⟩ := id C0
  have hK := hX.1
  have hN := hX.2
  have hS : va_S A s.heap s.heap [] := va_S.rf
  unfold f_X3_add at hf
  refine lv_aload_n hx hb dX3_add_0 rfl (lv_at hl 0 rfl) ?_
  refine va_get (D := D) (ci := 3) (v := .ref q_years) (C := RX3) (T := TX3) (N := 2) hx hb hts hn_X3_add_X3 hown hK hP 0 rfl rfl 0 (by decide) (hts _ hw_X3_add_f9) (fun _ h9 => h9) rfl dX3_add_1 ?_
  refine lv_aload_n hx hb dX3_add_4 rfl (lv_at hl 0 rfl) ?_
  refine lv_dup hx hb dX3_add_5 rfl ?_
  refine va_get (D := D) (ci := 3) (v := .int s_count) (C := RX3) (T := TX3) (N := 2) hx hb hts hn_X3_add_X3 hown hK hP 0 rfl rfl 1 (by decide) (hts _ hw_X3_add_f15) (fun _ h9 => h9) rfl dX3_add_6 ?_
  refine lv_dup_x1 hx hb dX3_add_9 rfl rfl ?_
  refine lv_iconst (v := (1 : Int32)) hx hb dX3_add_10 (by decide) ?_
  refine lv_iadd hx hb dX3_add_11 ?_
  refine lv_topi (fun count_1 ecount_1 => ?_)
  have hf := plt_e ecount_1 hf
  refine va_put (D := D) (ci := 3) (v := .int count_1) (ty := .int) (C := RX3) (T := TX3) (N := 2) hx hb hts hn_X3_add_X3 tyX3 tyX3_ok nmX3 hown hK hP hD hS 0 rfl rfl 1 (by decide) (hts _ hw_X3_add_f15) (fun _ h9 => h9) rfl (by decide +kernel) rfl rfl (Nat.le_of_ble_eq_true rfl) dX3_add_12 (fun H locs hP hD hS => ?_)
  have hP : va_P D vwCl (w_X3_add a0 q_years cA count_1 s_years) H := hP
  have hD : va_D A (w_X3_add a0 q_years cA count_1 s_years) := hD
  refine lv_iload_n hx hb dX3_add_15 rfl (lv_at hl 1 rfl) ?_
  obtain ⟨g_2, hf⟩ := pgd_e hf
  refine va_iast hx hb hK hP hD hS 1 1 rfl rfl g_2 dX3_add_16 (fun H locs hP hD hS => ?_)
  obtain ⟨f_3, ef_3⟩ : ∃ z : Nat → Int32, z = upd s_years s_count.toNatClampNeg x1 := ⟨_, rfl⟩
  have hf := plt_e ef_3 hf
  have hP : va_P D vwCl (w_X3_add a0 q_years cA count_1 f_3) H := by rw [ef_3]; exact hP
  have hD : va_D A (w_X3_add a0 q_years cA count_1 f_3) := by rw [ef_3]; exact hD
  refine lv_aload_n hx hb dX3_add_17 rfl (lv_at hl 0 rfl) ?_
  refine va_get (D := D) (ci := 3) (v := .int count_1) (C := RX3) (T := TX3) (N := 2) hx hb hts hn_X3_add_X3 hown hK hP 0 rfl rfl 1 (by decide) (hts _ hw_X3_add_f15) (fun _ h9 => h9) rfl dX3_add_18 ?_
  obtain ⟨rfl, rfl, rfl⟩ := pe3 hf
  exact m_iret hx hb hr hlocks hP hS dX3_add_21

/-! ===== OrphanWave$KnownSlips.become(LOrphanWave$KnownSlips;)V ===== -/
abbrev rm_X3_become : Room := { frames := 1, cells := 0, slots := 0, locals := 18 }
abbrev w_X3_become (a0 : Nat) (b1 : Nat) (b1_years : Nat) (q_years : Nat) (cA : Nat → ClassId) (s_count : Int32) (s_b1_count : Int32) (s_b1_years : Nat → Int32) (s_years : Nat → Int32) : va_W := [(a0, .inr (3, [.ref q_years, .int s_count])), (b1, .inr (3, [.ref b1_years, .int s_b1_count])), (b1_years, .inl (cA 1, 16, .inl s_b1_years)), (q_years, .inl (cA 1, 16, .inl s_years))]
theorem hn_X3_become_X3 : ∀ w ∈ u_ws RX3 TX3 2, w ∈ wsX3_become := by decide +kernel
theorem hw_X3_become_f9 : Cond.fieldLink RX3 9 "OrphanWave$KnownSlips" "years" "[I" ∈ wsX3_become := by decide +kernel
theorem hw_X3_become_f15 : Cond.fieldLink RX3 15 "OrphanWave$KnownSlips" "count" "I" ∈ wsX3_become := by decide +kernel
theorem hw_X3_become_m19 : Cond.methodLink RX3 19 arraycopyName ∈ wsX3_become := by decide +kernel
theorem hw_X3_become_nac : Cond.native arraycopyName ∈ wsX3_become := by decide +kernel
theorem hw_X3_become_sac : Cond.static arraycopyName ∈ wsX3_become := by decide +kernel
theorem hw_X3_become_isys : Cond.initialized "java/lang/System" ∈ wsX3_become := by decide +kernel

def f_X3_become (s_count : Int32) (s_b1_count : Int32) (s_b1_years : Nat → Int32) (s_years : Nat → Int32) : Option ((Int32) × (Nat → Int32)) :=
  plt (va_cpy s_b1_years s_years (0 : Int32).toNatClampNeg (0 : Int32).toNatClampNeg (16 : Int32).toNatClampNeg : Nat → Int32) (fun f_1 => (
  some (s_b1_count, f_1)))

set_option maxRecDepth 100000 in
set_option maxHeartbeats 4000000 in
theorem ct_X3_become (l : Launch) (D : va_G) (cA : Nat → ClassId) (a0 : Nat) (b1 : Nat) (b1_years : Nat) (q_years : Nat) (s_count : Int32) (s_b1_count : Int32) (s_b1_years : Nat → Int32) (s_years : Nat → Int32) (o_count : Int32) (o_years : Nat → Int32) (hf : f_X3_become s_count s_b1_count s_b1_years s_years = some (o_count, o_years)) : CT l yX3_become wsX3_become rm_X3_become D cA [.ref a0, .ref b1] (w_X3_become a0 b1 b1_years q_years cA s_count s_b1_count s_b1_years s_years) (w_X3_become a0 b1 b1_years q_years cA o_count s_b1_count s_b1_years o_years) none := by
  refine CT.ofW (cc := cX3_become) (maxL := 2) (ret := none) (by decide +kernel) rfl (Nat.le_of_ble_eq_true rfl) ?_
  intro p e s m below meth c A C0 hA hP hD ls hl
  have C0 : MX p s m [.ref a0, .ref b1].toArray meth c cX3_become 2 wsX3_become RX3 none D cA := C0
  have hl : lv_has ls 2 [(0, .ref a0), (1, .ref b1)] := hl
  obtain ⟨hx, hb, hml, hown, hts, hr, hlocks, hX⟩ := id C0
  have hK := hX.1
  have hN := hX.2
  have hS : va_S A s.heap s.heap [] := va_S.rf
  unfold f_X3_become at hf
  refine lv_aload_n hx hb dX3_become_0 rfl (lv_at hl 1 rfl) ?_
  refine va_get (D := D) (ci := 3) (v := .ref b1_years) (C := RX3) (T := TX3) (N := 2) hx hb hts hn_X3_become_X3 hown hK hP 1 rfl rfl 0 (by decide) (hts _ hw_X3_become_f9) (fun _ h9 => h9) rfl dX3_become_1 ?_
  refine lv_iconst (v := (0 : Int32)) hx hb dX3_become_4 (by decide) ?_
  refine lv_aload_n hx hb dX3_become_5 rfl (lv_at hl 0 rfl) ?_
  refine va_get (D := D) (ci := 3) (v := .ref q_years) (C := RX3) (T := TX3) (N := 2) hx hb hts hn_X3_become_X3 hown hK hP 0 rfl rfl 0 (by decide) (hts _ hw_X3_become_f9) (fun _ h9 => h9) rfl dX3_become_6 ?_
  refine lv_iconst (v := (0 : Int32)) hx hb dX3_become_9 (by decide) ?_
  refine lv_bipush (v := (16 : Int32)) hx hb dX3_become_10 (by decide) ?_
  refine va_copyi (ty := .int) hx hb (hml.trans hl.1.symm) hown (hts _ hw_X3_become_m19) (hts _ hw_X3_become_nac) (hts _ hw_X3_become_sac) (hts _ hw_X3_become_isys) hK hP hD hS 2 3 1 1 rfl rfl rfl rfl rfl (by decide) (by decide) (by decide) (by decide +kernel) (by decide +kernel) (fun _ _ => rfl) (Nat.le_of_ble_eq_true rfl) (Nat.le_of_ble_eq_true rfl) dX3_become_12 (fun H locs hP hD hS => ?_)
  obtain ⟨f_1, ef_1⟩ : ∃ z : Nat → Int32, z = va_cpy s_b1_years s_years (0 : Int32).toNatClampNeg (0 : Int32).toNatClampNeg (16 : Int32).toNatClampNeg := ⟨_, rfl⟩
  have hf := plt_e ef_1 hf
  have hP : va_P D vwCl (w_X3_become a0 b1 b1_years q_years cA s_count s_b1_count s_b1_years f_1) H := by rw [ef_1]; exact hP
  have hD : va_D A (w_X3_become a0 b1 b1_years q_years cA s_count s_b1_count s_b1_years f_1) := by rw [ef_1]; exact hD
  refine lv_aload_n hx hb dX3_become_15 rfl (lv_at hl 0 rfl) ?_
  refine lv_aload_n hx hb dX3_become_16 rfl (lv_at hl 1 rfl) ?_
  refine va_get (D := D) (ci := 3) (v := .int s_b1_count) (C := RX3) (T := TX3) (N := 2) hx hb hts hn_X3_become_X3 hown hK hP 1 rfl rfl 1 (by decide) (hts _ hw_X3_become_f15) (fun _ h9 => h9) rfl dX3_become_17 ?_
  refine va_put (D := D) (ci := 3) (v := .int s_b1_count) (ty := .int) (C := RX3) (T := TX3) (N := 2) hx hb hts hn_X3_become_X3 tyX3 tyX3_ok nmX3 hown hK hP hD hS 0 rfl rfl 1 (by decide) (hts _ hw_X3_become_f15) (fun _ h9 => h9) rfl (by decide +kernel) rfl rfl (Nat.le_of_ble_eq_true rfl) dX3_become_20 (fun H locs hP hD hS => ?_)
  have hP : va_P D vwCl (w_X3_become a0 b1 b1_years q_years cA s_b1_count s_b1_count s_b1_years f_1) H := hP
  have hD : va_D A (w_X3_become a0 b1 b1_years q_years cA s_b1_count s_b1_count s_b1_years f_1) := hD
  obtain ⟨rfl, rfl⟩ := pe2 hf
  exact m_vret hx hb hr hlocks hP hS dX3_become_23

/-! ===== OrphanWave$KnownSlips.gapsAbove(I)I ===== -/
abbrev rm_X3_gapsAbove : Room := { frames := 0, cells := 0, slots := 0, locals := 0 }
abbrev w_X3_gapsAbove (a0 : Nat) (q_years : Nat) (cA : Nat → ClassId) (s_count : Int32) (s_years : Nat → Int32) : va_W := [(a0, .inr (3, [.ref q_years, .int s_count])), (q_years, .inl (cA 1, 16, .inl s_years))]
theorem hn_X3_gapsAbove_X3 : ∀ w ∈ u_ws RX3 TX3 2, w ∈ wsX3_gapsAbove := by decide +kernel
theorem hw_X3_gapsAbove_f15 : Cond.fieldLink RX3 15 "OrphanWave$KnownSlips" "count" "I" ∈ wsX3_gapsAbove := by decide +kernel
theorem hw_X3_gapsAbove_f9 : Cond.fieldLink RX3 9 "OrphanWave$KnownSlips" "years" "[I" ∈ wsX3_gapsAbove := by decide +kernel

def f_X3_gapsAbove_4 (s_count : Int32) (s_years : Nat → Int32) (x1 : Int32) : Nat → (Int32) → (Int32) → Option ((Int32))
  | 0, _, _ => none
  | k + 1, x2, x3 =>
    pbr (s_count ≤ x3)
      (some (x2))
      (pgd (pin x3 16) (
      pgd (pin (x3 - (1 : Int32)) 16) (
      pbr (((s_years x3.toNatClampNeg) - (s_years (x3 - (1 : Int32)).toNatClampNeg)) ≤ x1)
        (plt (x3 + (1 : Int32) : Int32) (fun x3_5 => (
        (f_X3_gapsAbove_4 s_count s_years x1 k) x2 x3_5)))
        (plt (x2 + (1 : Int32) : Int32) (fun x2_6 => (
        plt (x3 + (1 : Int32) : Int32) (fun x3_7 => (
        (f_X3_gapsAbove_4 s_count s_years x1 k) x2_6 x3_7))))))))

set_option maxRecDepth 100000 in
set_option maxHeartbeats 4000000 in
theorem k_X3_gapsAbove_4 {p : Program} {l : Launch} {e : Env} {s : State} {m : MethodId} {args : Array Value} {below : List Frame} {meth : Method} {c : Code} {A : Nat → Prop} {D : va_G} {cA : Nat → ClassId} (C0 : MX p s m args meth c cX3_gapsAbove 4 wsX3_gapsAbove RX3 (some .int) D cA) (hA : ∀ q, s.heap.size ≤ q → A q) {a0 : Nat} {q_years : Nat} {s_count : Int32} {s_years : Nat → Int32} {x1 : Int32} {o_r : Int32} : ∀ (k : Nat) (x2 : Int32) (x3 : Int32), f_X3_gapsAbove_4 s_count s_years x1 k x2 x3 = some o_r → ∀ (H : Heap) (locs : List Loc), va_P D vwCl (w_X3_gapsAbove a0 q_years cA s_count s_years) H → va_D A (w_X3_gapsAbove a0 q_years cA s_count s_years) → va_S A s.heap H locs → ∀ ls : Array Slot, lv_has ls 4 [(0, .ref a0), (1, .int x1), (2, .int x2), (3, .int x3)] → W p l e rm_X3_gapsAbove s m args below meth c H locs 0 0 (MQ below (CQ D (some (.int o_r)) (w_X3_gapsAbove a0 q_years cA s_count s_years) A) args s 0 0 A) (F0 m 4 ls []) := by
  obtain ⟨hx, hb, hml, hown, hts, hr, hlocks, hX⟩ := C0
  have hK := hX.1
  have hN := hX.2
  intro k
  induction k with
  | zero =>
    intro x2 x3 hf
    cases hf
  | succ k ih =>
    intro x2 x3 hf H locs hP hD hS ls hl
    rw [f_X3_gapsAbove_4] at hf
    refine lv_iload_n hx hb dX3_gapsAbove_4 rfl (lv_at hl 3 rfl) ?_
    refine lv_aload_n hx hb dX3_gapsAbove_5 rfl (lv_at hl 0 rfl) ?_
    refine va_get (D := D) (ci := 3) (v := .int s_count) (C := RX3) (T := TX3) (N := 2) hx hb hts hn_X3_gapsAbove_X3 hown hK hP 0 rfl rfl 1 (by decide) (hts _ hw_X3_gapsAbove_f15) (fun _ h9 => h9) rfl dX3_gapsAbove_6 ?_
    refine lv_icmp_ge (tgt := 40) hx hb dX3_gapsAbove_9 (by decide) (fun c_1 => ?_) (fun c_1 => ?_)
    · have hf := pbr_t c_1 hf
      refine lv_iload_n hx hb dX3_gapsAbove_40 rfl (lv_at hl 2 rfl) ?_
      obtain rfl := pe1 hf
      exact m_iret hx hb hr hlocks hP hS dX3_gapsAbove_41
    have hf := pbr_f c_1 hf
    refine lv_aload_n hx hb dX3_gapsAbove_12 rfl (lv_at hl 0 rfl) ?_
    refine va_get (D := D) (ci := 3) (v := .ref q_years) (C := RX3) (T := TX3) (N := 2) hx hb hts hn_X3_gapsAbove_X3 hown hK hP 0 rfl rfl 0 (by decide) (hts _ hw_X3_gapsAbove_f9) (fun _ h9 => h9) rfl dX3_gapsAbove_13 ?_
    refine lv_iload_n hx hb dX3_gapsAbove_16 rfl (lv_at hl 3 rfl) ?_
    obtain ⟨g_2, hf⟩ := pgd_e hf
    refine va_iald hx hb hK hP 1 1 rfl rfl g_2 dX3_gapsAbove_17 ?_
    refine lv_aload_n hx hb dX3_gapsAbove_18 rfl (lv_at hl 0 rfl) ?_
    refine va_get (D := D) (ci := 3) (v := .ref q_years) (C := RX3) (T := TX3) (N := 2) hx hb hts hn_X3_gapsAbove_X3 hown hK hP 0 rfl rfl 0 (by decide) (hts _ hw_X3_gapsAbove_f9) (fun _ h9 => h9) rfl dX3_gapsAbove_19 ?_
    refine lv_iload_n hx hb dX3_gapsAbove_22 rfl (lv_at hl 3 rfl) ?_
    refine lv_iconst (v := (1 : Int32)) hx hb dX3_gapsAbove_23 (by decide) ?_
    refine lv_isub hx hb dX3_gapsAbove_24 ?_
    obtain ⟨g_3, hf⟩ := pgd_e hf
    refine va_iald hx hb hK hP 1 1 rfl rfl g_3 dX3_gapsAbove_25 ?_
    refine lv_isub hx hb dX3_gapsAbove_26 ?_
    refine lv_iload_n hx hb dX3_gapsAbove_27 rfl (lv_at hl 1 rfl) ?_
    refine lv_icmp_le (tgt := 34) hx hb dX3_gapsAbove_28 (by decide) (fun c_4 => ?_) (fun c_4 => ?_)
    · have hf := pbr_t c_4 hf
      obtain ⟨x3_5, ex3_5⟩ : ∃ z : Int32, z = x3 + (1 : Int32) := ⟨_, rfl⟩
      have hf := plt_e ex3_5 hf
      refine lv_iinc (v := x3_5) (lv' := [(3, .int x3_5), (0, .ref a0), (1, .int x1), (2, .int x2)]) hx hb dX3_gapsAbove_34 hl (k := 3) rfl (by rw [ex3_5]; rfl) (by decide) rfl (fun ls hl => ?_)
      refine lv_goto (tgt := 4) hx hb dX3_gapsAbove_37 (by decide) ?_
      exact ih x2 x3_5 hf _ _ hP hD hS ls (lv_sub hl [1, 2, 3, 0] rfl)
    have hf := pbr_f c_4 hf
    obtain ⟨x2_6, ex2_6⟩ : ∃ z : Int32, z = x2 + (1 : Int32) := ⟨_, rfl⟩
    have hf := plt_e ex2_6 hf
    refine lv_iinc (v := x2_6) (lv' := [(2, .int x2_6), (0, .ref a0), (1, .int x1), (3, .int x3)]) hx hb dX3_gapsAbove_31 hl (k := 2) rfl (by rw [ex2_6]; rfl) (by decide) rfl (fun ls hl => ?_)
    obtain ⟨x3_7, ex3_7⟩ : ∃ z : Int32, z = x3 + (1 : Int32) := ⟨_, rfl⟩
    have hf := plt_e ex3_7 hf
    refine lv_iinc (v := x3_7) (lv' := [(3, .int x3_7), (2, .int x2_6), (0, .ref a0), (1, .int x1)]) hx hb dX3_gapsAbove_34 hl (k := 3) rfl (by rw [ex3_7]; rfl) (by decide) rfl (fun ls hl => ?_)
    refine lv_goto (tgt := 4) hx hb dX3_gapsAbove_37 (by decide) ?_
    exact ih x2_6 x3_7 hf _ _ hP hD hS ls (lv_sub hl [2, 3, 1, 0] rfl)

def f_X3_gapsAbove (x1 : Int32) (s_count : Int32) (s_years : Nat → Int32) : Option ((Int32)) :=
  f_X3_gapsAbove_4 s_count s_years x1 FU (0 : Int32) (1 : Int32)

set_option maxRecDepth 100000 in
set_option maxHeartbeats 4000000 in
theorem ct_X3_gapsAbove (l : Launch) (D : va_G) (cA : Nat → ClassId) (x1 : Int32) (a0 : Nat) (q_years : Nat) (s_count : Int32) (s_years : Nat → Int32) (o_r : Int32) (hf : f_X3_gapsAbove x1 s_count s_years = some o_r) : CT l yX3_gapsAbove wsX3_gapsAbove rm_X3_gapsAbove D cA [.ref a0, .int x1] (w_X3_gapsAbove a0 q_years cA s_count s_years) (w_X3_gapsAbove a0 q_years cA s_count s_years) (some (.int o_r)) := by
  refine CT.ofW (cc := cX3_gapsAbove) (maxL := 4) (ret := (some .int)) (by decide +kernel) rfl (Nat.le_of_ble_eq_true rfl) ?_
  intro p e s m below meth c A C0 hA hP hD ls hl
  have C0 : MX p s m [.ref a0, .int x1].toArray meth c cX3_gapsAbove 4 wsX3_gapsAbove RX3 (some .int) D cA := C0
  have hl : lv_has ls 4 [(0, .ref a0), (1, .int x1)] := hl
  obtain ⟨hx, hb, hml, hown, hts, hr, hlocks, hX⟩ := id C0
  have hK := hX.1
  have hN := hX.2
  have hS : va_S A s.heap s.heap [] := va_S.rf
  unfold f_X3_gapsAbove at hf
  refine lv_iconst (v := (0 : Int32)) hx hb dX3_gapsAbove_0 (by decide) ?_
  refine lv_istore_n (lv' := [(2, .int (0 : Int32)), (0, .ref a0), (1, .int x1)]) hx hb dX3_gapsAbove_1 rfl hl (by decide) rfl (fun ls hl => ?_)
  refine lv_iconst (v := (1 : Int32)) hx hb dX3_gapsAbove_2 (by decide) ?_
  refine lv_istore_n (lv' := [(3, .int (1 : Int32)), (2, .int (0 : Int32)), (0, .ref a0), (1, .int x1)]) hx hb dX3_gapsAbove_3 rfl hl (by decide) rfl (fun ls hl => ?_)
  exact k_X3_gapsAbove_4 C0 hA FU (0 : Int32) (1 : Int32) hf _ _ hP hD hS ls (lv_sub hl [2, 3, 1, 0] rfl)

/-! ===== OrphanWave$KnownSlips.outlook(III)I ===== -/
abbrev rm_X3_outlook : Room := { frames := 1, cells := 0, slots := 0, locals := 30 }
abbrev w_X3_outlook (a0 : Nat) (q_years : Nat) (cA : Nat → ClassId) (s_count : Int32) (s_years : Nat → Int32) : va_W := [(a0, .inr (3, [.ref q_years, .int s_count])), (q_years, .inl (cA 1, 16, .inl s_years))]
theorem hn_X3_outlook_X3 : ∀ w ∈ u_ws RX3 TX3 2, w ∈ wsX3_outlook := by decide +kernel
theorem hw_X3_outlook_f15 : Cond.fieldLink RX3 15 "OrphanWave$KnownSlips" "count" "I" ∈ wsX3_outlook := by decide +kernel
theorem hw_X3_outlook_c25 : Cond.constant RX3 25 (-1000000) ∈ wsX3_outlook := by decide +kernel
theorem hw_X3_outlook_f9 : Cond.fieldLink RX3 9 "OrphanWave$KnownSlips" "years" "[I" ∈ wsX3_outlook := by decide +kernel
theorem hw_X3_outlook_iX11 : Cond.initialized RX11 ∈ wsX3_outlook := by decide +kernel
theorem hw_X3_outlook_sX11_commonPart : Cond.static yX11_commonPart ∈ wsX3_outlook := by decide +kernel

def f_X3_outlook (x1 : Int32) (x2 : Int32) (x3 : Int32) (s_count : Int32) (s_years : Nat → Int32) : Option ((Int32)) :=
  pbr (s_count < (2 : Int32))
    (some ((-1000000 : Int32)))
    (pgd (pin (s_count - (1 : Int32)) 16) (
    pbr ((s_years (s_count - (1 : Int32)).toNatClampNeg) ≤ x1)
      (plt ((x1 - (s_years (s_count - (1 : Int32)).toNatClampNeg)) : Int32) (fun x4_4 => (
      pcl (f_X3_gapsAbove x4_4 s_count s_years) (fun r_5 => (
      pbr (r_5 = 0)
        (some ((1 : Int32)))
        (pcl (f_X3_gapsAbove (x4_4 + x2) s_count s_years) (fun r_8 => (
        plt ((r_5 - r_8) : Int32) (fun x6_10 => (
        pcl (f_X11_commonPart x6_10.toInt64 r_5.toInt64) (fun r_11 => (
        plt (r_11.toInt32 : Int32) (fun x7_13 => (
        pbr (x7_13 = 0)
          (some ((-1000000 : Int32)))
          (pbr (x3 = 0)
            (pgd (¬ x7_13 = 0) (
            some ((x6_10 / x7_13))))
            (pgd (¬ x7_13 = 0) (
            some ((r_5 / x7_13)))))))))))))))))))
      (some ((-1000000 : Int32)))))

set_option maxRecDepth 100000 in
set_option maxHeartbeats 4000000 in
theorem ct_X3_outlook (l : Launch) (D : va_G) (cA : Nat → ClassId) (x1 : Int32) (x2 : Int32) (x3 : Int32) (a0 : Nat) (q_years : Nat) (s_count : Int32) (s_years : Nat → Int32) (o_r : Int32) (hf : f_X3_outlook x1 x2 x3 s_count s_years = some o_r) : CT l yX3_outlook wsX3_outlook rm_X3_outlook D cA [.ref a0, .int x1, .int x2, .int x3] (w_X3_outlook a0 q_years cA s_count s_years) (w_X3_outlook a0 q_years cA s_count s_years) (some (.int o_r)) := by
  refine CT.ofW (cc := cX3_outlook) (maxL := 8) (ret := (some .int)) (by decide +kernel) rfl (Nat.le_of_ble_eq_true rfl) ?_
  intro p e s m below meth c A C0 hA hP hD ls hl
  have C0 : MX p s m [.ref a0, .int x1, .int x2, .int x3].toArray meth c cX3_outlook 8 wsX3_outlook RX3 (some .int) D cA := C0
  have hl : lv_has ls 8 [(0, .ref a0), (1, .int x1), (2, .int x2), (3, .int x3)] := hl
  obtain ⟨hx, hb, hml, hown, hts, hr, hlocks, hX⟩ := id C0
  have hK := hX.1
  have hN := hX.2
  have hS : va_S A s.heap s.heap [] := va_S.rf
  unfold f_X3_outlook at hf
  refine lv_aload_n hx hb dX3_outlook_0 rfl (lv_at hl 0 rfl) ?_
  refine va_get (D := D) (ci := 3) (v := .int s_count) (C := RX3) (T := TX3) (N := 2) hx hb hts hn_X3_outlook_X3 hown hK hP 0 rfl rfl 1 (by decide) (hts _ hw_X3_outlook_f15) (fun _ h9 => h9) rfl dX3_outlook_1 ?_
  refine lv_iconst (v := (2 : Int32)) hx hb dX3_outlook_4 (by decide) ?_
  refine lv_icmp_lt (tgt := 23) hx hb dX3_outlook_5 (by decide) (fun c_1 => ?_) (fun c_1 => ?_)
  · have hf := pbr_t c_1 hf
    refine lv_ldc (v := (-1000000 : Int32)) hx hb hown (hts _ hw_X3_outlook_c25) dX3_outlook_23 ?_
    obtain rfl := pe1 hf
    exact m_iret hx hb hr hlocks hP hS dX3_outlook_25
  have hf := pbr_f c_1 hf
  refine lv_iload_n hx hb dX3_outlook_8 rfl (lv_at hl 1 rfl) ?_
  refine lv_aload_n hx hb dX3_outlook_9 rfl (lv_at hl 0 rfl) ?_
  refine va_get (D := D) (ci := 3) (v := .ref q_years) (C := RX3) (T := TX3) (N := 2) hx hb hts hn_X3_outlook_X3 hown hK hP 0 rfl rfl 0 (by decide) (hts _ hw_X3_outlook_f9) (fun _ h9 => h9) rfl dX3_outlook_10 ?_
  refine lv_aload_n hx hb dX3_outlook_13 rfl (lv_at hl 0 rfl) ?_
  refine va_get (D := D) (ci := 3) (v := .int s_count) (C := RX3) (T := TX3) (N := 2) hx hb hts hn_X3_outlook_X3 hown hK hP 0 rfl rfl 1 (by decide) (hts _ hw_X3_outlook_f15) (fun _ h9 => h9) rfl dX3_outlook_14 ?_
  refine lv_iconst (v := (1 : Int32)) hx hb dX3_outlook_17 (by decide) ?_
  refine lv_isub hx hb dX3_outlook_18 ?_
  obtain ⟨g_2, hf⟩ := pgd_e hf
  refine va_iald hx hb hK hP 1 1 rfl rfl g_2 dX3_outlook_19 ?_
  refine lv_icmp_ge (tgt := 26) hx hb dX3_outlook_20 (by decide) (fun c_3 => ?_) (fun c_3 => ?_)
  · have hf := pbr_t c_3 hf
    refine lv_iload_n hx hb dX3_outlook_26 rfl (lv_at hl 1 rfl) ?_
    refine lv_aload_n hx hb dX3_outlook_27 rfl (lv_at hl 0 rfl) ?_
    refine va_get (D := D) (ci := 3) (v := .ref q_years) (C := RX3) (T := TX3) (N := 2) hx hb hts hn_X3_outlook_X3 hown hK hP 0 rfl rfl 0 (by decide) (hts _ hw_X3_outlook_f9) (fun _ h9 => h9) rfl dX3_outlook_28 ?_
    refine lv_aload_n hx hb dX3_outlook_31 rfl (lv_at hl 0 rfl) ?_
    refine va_get (D := D) (ci := 3) (v := .int s_count) (C := RX3) (T := TX3) (N := 2) hx hb hts hn_X3_outlook_X3 hown hK hP 0 rfl rfl 1 (by decide) (hts _ hw_X3_outlook_f15) (fun _ h9 => h9) rfl dX3_outlook_32 ?_
    refine lv_iconst (v := (1 : Int32)) hx hb dX3_outlook_35 (by decide) ?_
    refine lv_isub hx hb dX3_outlook_36 ?_
    refine va_iald hx hb hK hP 1 1 rfl rfl g_2 dX3_outlook_37 ?_
    refine lv_isub hx hb dX3_outlook_38 ?_
    refine lv_topi (fun x4_4 ex4_4 => ?_)
    have hf := plt_e ex4_4 hf
    refine lv_istore (lv' := [(4, .int x4_4), (0, .ref a0), (1, .int x1), (2, .int x2), (3, .int x3)]) hx hb dX3_outlook_39 hl (by decide) rfl (fun ls hl => ?_)
    refine lv_aload_n hx hb dX3_outlook_41 rfl (lv_at hl 1 rfl) ?_
    refine lv_iload hx hb dX3_outlook_42 (lv_at hl 0 rfl) ?_
    obtain ⟨r_5, hc_6, hf⟩ := pcl_e hf
    refine m_callV2 (As := [.int x4_4]) (rest := []) ⟨hx, hb, hml, hown, hts⟩ hX (ct_X3_gapsAbove l D cA x4_4 a0 q_years s_count s_years r_5 hc_6) (cwV 1 hts gX3_outlook_X3_gapsAbove rfl rfl rfl (by decide +kernel) ⟨Nat.le_of_ble_eq_true rfl, Nat.le_of_ble_eq_true rfl⟩) hP hD hS hA [0, 1] [] 2 (by decide) rfl rfl (WS' := (w_X3_outlook a0 q_years cA s_count s_years)) (WR := []) rfl rfl rfl rfl (by decide) (by decide) 0 3 rfl rfl rfl hl.1 rfl (st' := [.int r_5]) rfl (Nat.le_of_ble_eq_true rfl) ⟨Nat.zero_le _, Nat.zero_le _⟩ dX3_outlook_44 (fun H locs hP hD hS => ?_)
    refine lv_istore (lv' := [(5, .int r_5), (4, .int x4_4), (0, .ref a0), (1, .int x1), (2, .int x2), (3, .int x3)]) hx hb dX3_outlook_47 hl (by decide) rfl (fun ls hl => ?_)
    refine lv_iload hx hb dX3_outlook_49 (lv_at hl 0 rfl) ?_
    refine lv_if_ne (tgt := 56) hx hb dX3_outlook_51 (by decide) (fun c_7 => ?_) (fun c_7 => ?_)
    · have hf := pbr_f c_7 hf
      refine lv_iload hx hb dX3_outlook_56 (lv_at hl 0 rfl) ?_
      refine lv_aload_n hx hb dX3_outlook_58 rfl (lv_at hl 2 rfl) ?_
      refine lv_iload hx hb dX3_outlook_59 (lv_at hl 1 rfl) ?_
      refine lv_iload_n hx hb dX3_outlook_61 rfl (lv_at hl 4 rfl) ?_
      refine lv_iadd hx hb dX3_outlook_62 ?_
      obtain ⟨r_8, hc_9, hf⟩ := pcl_e hf
      refine m_callV2 (As := [.int (x4_4 + x2)]) (rest := [.int r_5]) ⟨hx, hb, hml, hown, hts⟩ hX (ct_X3_gapsAbove l D cA (x4_4 + x2) a0 q_years s_count s_years r_8 hc_9) (cwV 1 hts gX3_outlook_X3_gapsAbove rfl rfl rfl (by decide +kernel) ⟨Nat.le_of_ble_eq_true rfl, Nat.le_of_ble_eq_true rfl⟩) hP hD hS hA [0, 1] [] 2 (by decide) rfl rfl (WS' := (w_X3_outlook a0 q_years cA s_count s_years)) (WR := []) rfl rfl rfl rfl (by decide) (by decide) 0 3 rfl rfl rfl hl.1 rfl (st' := [.int r_8, .int r_5]) rfl (Nat.le_of_ble_eq_true rfl) ⟨Nat.zero_le _, Nat.zero_le _⟩ dX3_outlook_63 (fun H locs hP hD hS => ?_)
      refine lv_isub hx hb dX3_outlook_66 ?_
      refine lv_topi (fun x6_10 ex6_10 => ?_)
      have hf := plt_e ex6_10 hf
      refine lv_istore (lv' := [(6, .int x6_10), (5, .int r_5), (4, .int x4_4), (0, .ref a0), (1, .int x1), (2, .int x2), (3, .int x3)]) hx hb dX3_outlook_67 hl (by decide) rfl (fun ls hl => ?_)
      refine lv_iload hx hb dX3_outlook_69 (lv_at hl 0 rfl) ?_
      refine lv_i2l hx hb dX3_outlook_71 rfl ?_
      refine lv_iload hx hb dX3_outlook_72 (lv_at hl 1 rfl) ?_
      refine lv_i2l hx hb dX3_outlook_74 rfl ?_
      obtain ⟨r_11, hc_12, hf⟩ := pcl_e hf
      refine m_callSN2 (As := [.long x6_10.toInt64, .long r_5.toInt64]) (rest := []) ⟨hx, hb, hml, hown, hts⟩ hX (ct_X11_commonPart l D cA x6_10.toInt64 r_5.toInt64 r_11 hc_12) ⟨va_cnB 2 hts ggX3_outlook_X11_commonPart rfl rfl rfl (hN _ nw_X3_30) (hts _ hw_X3_outlook_iX11) (by decide +kernel) ⟨Nat.le_of_ble_eq_true rfl, Nat.le_of_ble_eq_true rfl⟩, hts _ hw_X3_outlook_sX11_commonPart, trivial⟩ hP hD hS hA [] [0, 1] 2 (by decide) rfl rfl (WS' := (w_X3_outlook a0 q_years cA s_count s_years)) (WR := [(a0, .inr (3, [.ref q_years, .int s_count])), (q_years, .inl (cA 1, 16, .inl s_years))]) rfl rfl rfl rfl (by decide) (by decide) rfl hl.1 rfl (st' := [.long r_11]) rfl (Nat.le_of_ble_eq_true rfl) ⟨Nat.zero_le _, Nat.zero_le _⟩ dX3_outlook_75 (fun H locs hP hD hS => ?_)
      refine lv_l2i hx hb dX3_outlook_78 rfl ?_
      refine lv_topi (fun x7_13 ex7_13 => ?_)
      have hf := plt_e ex7_13 hf
      refine lv_istore (lv' := [(7, .int x7_13), (6, .int x6_10), (5, .int r_5), (4, .int x4_4), (0, .ref a0), (1, .int x1), (2, .int x2), (3, .int x3)]) hx hb dX3_outlook_79 hl (by decide) rfl (fun ls hl => ?_)
      refine lv_iload hx hb dX3_outlook_81 (lv_at hl 0 rfl) ?_
      refine lv_if_ne (tgt := 89) hx hb dX3_outlook_83 (by decide) (fun c_14 => ?_) (fun c_14 => ?_)
      · have hf := pbr_f c_14 hf
        refine lv_iload_n hx hb dX3_outlook_89 rfl (lv_at hl 7 rfl) ?_
        refine lv_if_ne (tgt := 98) hx hb dX3_outlook_90 (by decide) (fun c_15 => ?_) (fun c_15 => ?_)
        · have hf := pbr_f c_15 hf
          refine lv_iload hx hb dX3_outlook_98 (lv_at hl 2 rfl) ?_
          refine lv_iload hx hb dX3_outlook_100 (lv_at hl 0 rfl) ?_
          obtain ⟨g_16, hf⟩ := pgd_e hf
          refine lv_idiv hx hb dX3_outlook_102 g_16 ?_
          obtain rfl := pe1 hf
          exact m_iret hx hb hr hlocks hP hS dX3_outlook_103
        have hf := pbr_t c_15 hf
        refine lv_iload hx hb dX3_outlook_93 (lv_at hl 1 rfl) ?_
        refine lv_goto (tgt := 100) hx hb dX3_outlook_95 (by decide) ?_
        refine lv_iload hx hb dX3_outlook_100 (lv_at hl 0 rfl) ?_
        obtain ⟨g_17, hf⟩ := pgd_e hf
        refine lv_idiv hx hb dX3_outlook_102 g_17 ?_
        obtain rfl := pe1 hf
        exact m_iret hx hb hr hlocks hP hS dX3_outlook_103
      have hf := pbr_t c_14 hf
      refine lv_ldc (v := (-1000000 : Int32)) hx hb hown (hts _ hw_X3_outlook_c25) dX3_outlook_86 ?_
      obtain rfl := pe1 hf
      exact m_iret hx hb hr hlocks hP hS dX3_outlook_88
    have hf := pbr_t c_7 hf
    refine lv_iconst (v := (1 : Int32)) hx hb dX3_outlook_54 (by decide) ?_
    obtain rfl := pe1 hf
    exact m_iret hx hb hr hlocks hP hS dX3_outlook_55
  have hf := pbr_f c_3 hf
  refine lv_ldc (v := (-1000000 : Int32)) hx hb hown (hts _ hw_X3_outlook_c25) dX3_outlook_23 ?_
  obtain rfl := pe1 hf
  exact m_iret hx hb hr hlocks hP hS dX3_outlook_25

/-! ===== OrphanWave$KnownSlips.evenness()I ===== -/
abbrev rm_X3_evenness : Room := { frames := 1, cells := 0, slots := 0, locals := 13 }
abbrev w_X3_evenness (a0 : Nat) (q_years : Nat) (cA : Nat → ClassId) (s_count : Int32) (s_years : Nat → Int32) : va_W := [(a0, .inr (3, [.ref q_years, .int s_count])), (q_years, .inl (cA 1, 16, .inl s_years))]
theorem hn_X3_evenness_X3 : ∀ w ∈ u_ws RX3 TX3 2, w ∈ wsX3_evenness := by decide +kernel
theorem hw_X3_evenness_f15 : Cond.fieldLink RX3 15 "OrphanWave$KnownSlips" "count" "I" ∈ wsX3_evenness := by decide +kernel
theorem hw_X3_evenness_f9 : Cond.fieldLink RX3 9 "OrphanWave$KnownSlips" "years" "[I" ∈ wsX3_evenness := by decide +kernel
theorem hw_X3_evenness_m34 : Cond.methodLink RX3 34 Lib.Math.min.name ∈ wsX3_evenness := by decide +kernel
theorem hw_X3_evenness_smin : Cond.static Lib.Math.min.name ∈ wsX3_evenness := by decide +kernel
theorem hw_X3_evenness_imath : Cond.initialized "java/lang/Math" ∈ wsX3_evenness := by decide +kernel
theorem hw_X3_evenness_kmin : Cond.code Lib.Math.min.name Lib.Math.min.code 2 (some .int) ∈ wsX3_evenness := by decide +kernel
theorem hw_X3_evenness_m40 : Cond.methodLink RX3 40 Lib.Math.max.name ∈ wsX3_evenness := by decide +kernel
theorem hw_X3_evenness_smax : Cond.static Lib.Math.max.name ∈ wsX3_evenness := by decide +kernel
theorem hw_X3_evenness_kmax : Cond.code Lib.Math.max.name Lib.Math.max.code 2 (some .int) ∈ wsX3_evenness := by decide +kernel

def f_X3_evenness_19 (s_count : Int32) (s_years : Nat → Int32) : Nat → (Int32) → (Int32) → (Int32) → Option ((Int32))
  | 0, _, _, _ => none
  | k + 1, x1, x2, x3 =>
    pbr (s_count ≤ x3)
      (pbr (x2 = 0)
        (some ((-9 : Int32)))
        (pgd (¬ x2 = 0) (
        some ((((1000 : Int32) * x1) / x2)))))
      (pgd (pin x3 16) (
      pgd (pin (x3 - (1 : Int32)) 16) (
      plt ((if ((s_years x3.toNatClampNeg) - (s_years (x3 - (1 : Int32)).toNatClampNeg)) < x1 then ((s_years x3.toNatClampNeg) - (s_years (x3 - (1 : Int32)).toNatClampNeg)) else x1) : Int32) (fun x1_6 => (
      plt ((if x2 < ((s_years x3.toNatClampNeg) - (s_years (x3 - (1 : Int32)).toNatClampNeg)) then ((s_years x3.toNatClampNeg) - (s_years (x3 - (1 : Int32)).toNatClampNeg)) else x2) : Int32) (fun x2_7 => (
      plt (x3 + (1 : Int32) : Int32) (fun x3_8 => (
      (f_X3_evenness_19 s_count s_years k) x1_6 x2_7 x3_8)))))))))

set_option maxRecDepth 100000 in
set_option maxHeartbeats 4000000 in
theorem k_X3_evenness_19 {p : Program} {l : Launch} {e : Env} {s : State} {m : MethodId} {args : Array Value} {below : List Frame} {meth : Method} {c : Code} {A : Nat → Prop} {D : va_G} {cA : Nat → ClassId} (C0 : MX p s m args meth c cX3_evenness 4 wsX3_evenness RX3 (some .int) D cA) (hA : ∀ q, s.heap.size ≤ q → A q) {a0 : Nat} {q_years : Nat} {s_count : Int32} {s_years : Nat → Int32} {o_r : Int32} : ∀ (k : Nat) (x1 : Int32) (x2 : Int32) (x3 : Int32), f_X3_evenness_19 s_count s_years k x1 x2 x3 = some o_r → ∀ (H : Heap) (locs : List Loc), va_P D vwCl (w_X3_evenness a0 q_years cA s_count s_years) H → va_D A (w_X3_evenness a0 q_years cA s_count s_years) → va_S A s.heap H locs → ∀ ls : Array Slot, lv_has ls 4 [(0, .ref a0), (1, .int x1), (2, .int x2), (3, .int x3)] → W p l e rm_X3_evenness s m args below meth c H locs 0 0 (MQ below (CQ D (some (.int o_r)) (w_X3_evenness a0 q_years cA s_count s_years) A) args s 0 0 A) (F0 m 19 ls []) := by
  obtain ⟨hx, hb, hml, hown, hts, hr, hlocks, hX⟩ := C0
  have hK := hX.1
  have hN := hX.2
  intro k
  induction k with
  | zero =>
    intro x1 x2 x3 hf
    cases hf
  | succ k ih =>
    intro x1 x2 x3 hf H locs hP hD hS ls hl
    rw [f_X3_evenness_19] at hf
    refine lv_iload_n hx hb dX3_evenness_19 rfl (lv_at hl 3 rfl) ?_
    refine lv_aload_n hx hb dX3_evenness_20 rfl (lv_at hl 0 rfl) ?_
    refine va_get (D := D) (ci := 3) (v := .int s_count) (C := RX3) (T := TX3) (N := 2) hx hb hts hn_X3_evenness_X3 hown hK hP 0 rfl rfl 1 (by decide) (hts _ hw_X3_evenness_f15) (fun _ h9 => h9) rfl dX3_evenness_21 ?_
    refine lv_icmp_ge (tgt := 73) hx hb dX3_evenness_24 (by decide) (fun c_1 => ?_) (fun c_1 => ?_)
    · have hf := pbr_t c_1 hf
      refine lv_iload_n hx hb dX3_evenness_73 rfl (lv_at hl 2 rfl) ?_
      refine lv_if_ne (tgt := 82) hx hb dX3_evenness_74 (by decide) (fun c_2 => ?_) (fun c_2 => ?_)
      · have hf := pbr_f c_2 hf
        refine lv_sipush (v := (1000 : Int32)) hx hb dX3_evenness_82 (by decide) ?_
        refine lv_iload_n hx hb dX3_evenness_85 rfl (lv_at hl 1 rfl) ?_
        refine lv_imul hx hb dX3_evenness_86 ?_
        refine lv_iload_n hx hb dX3_evenness_87 rfl (lv_at hl 2 rfl) ?_
        obtain ⟨g_3, hf⟩ := pgd_e hf
        refine lv_idiv hx hb dX3_evenness_88 g_3 ?_
        obtain rfl := pe1 hf
        exact m_iret hx hb hr hlocks hP hS dX3_evenness_89
      have hf := pbr_t c_2 hf
      refine lv_bipush (v := (-9 : Int32)) hx hb dX3_evenness_77 (by decide) ?_
      refine lv_goto (tgt := 89) hx hb dX3_evenness_79 (by decide) ?_
      obtain rfl := pe1 hf
      exact m_iret hx hb hr hlocks hP hS dX3_evenness_89
    have hf := pbr_f c_1 hf
    refine lv_iload_n hx hb dX3_evenness_27 rfl (lv_at hl 1 rfl) ?_
    refine lv_aload_n hx hb dX3_evenness_28 rfl (lv_at hl 0 rfl) ?_
    refine va_get (D := D) (ci := 3) (v := .ref q_years) (C := RX3) (T := TX3) (N := 2) hx hb hts hn_X3_evenness_X3 hown hK hP 0 rfl rfl 0 (by decide) (hts _ hw_X3_evenness_f9) (fun _ h9 => h9) rfl dX3_evenness_29 ?_
    refine lv_iload_n hx hb dX3_evenness_32 rfl (lv_at hl 3 rfl) ?_
    obtain ⟨g_4, hf⟩ := pgd_e hf
    refine va_iald hx hb hK hP 1 1 rfl rfl g_4 dX3_evenness_33 ?_
    refine lv_aload_n hx hb dX3_evenness_34 rfl (lv_at hl 0 rfl) ?_
    refine va_get (D := D) (ci := 3) (v := .ref q_years) (C := RX3) (T := TX3) (N := 2) hx hb hts hn_X3_evenness_X3 hown hK hP 0 rfl rfl 0 (by decide) (hts _ hw_X3_evenness_f9) (fun _ h9 => h9) rfl dX3_evenness_35 ?_
    refine lv_iload_n hx hb dX3_evenness_38 rfl (lv_at hl 3 rfl) ?_
    refine lv_iconst (v := (1 : Int32)) hx hb dX3_evenness_39 (by decide) ?_
    refine lv_isub hx hb dX3_evenness_40 ?_
    obtain ⟨g_5, hf⟩ := pgd_e hf
    refine va_iald hx hb hK hP 1 1 rfl rfl g_5 dX3_evenness_41 ?_
    refine lv_isub hx hb dX3_evenness_42 ?_
    refine va_mmin hx hb (hml.trans hl.1.symm) hown (hts _ hw_X3_evenness_m34) (hts _ hw_X3_evenness_smin) (hts _ hw_X3_evenness_imath) (hts _ hw_X3_evenness_kmin) (Nat.le_of_ble_eq_true rfl) (Nat.le_of_ble_eq_true rfl) (Nat.zero_le _) (Nat.zero_le _) dX3_evenness_43 ?_
    refine lv_topi (fun x1_6 ex1_6 => ?_)
    have hf := plt_e ex1_6 hf
    refine lv_istore_n (lv' := [(1, .int x1_6), (0, .ref a0), (2, .int x2), (3, .int x3)]) hx hb dX3_evenness_46 rfl hl (by decide) rfl (fun ls hl => ?_)
    refine lv_iload_n hx hb dX3_evenness_47 rfl (lv_at hl 2 rfl) ?_
    refine lv_aload_n hx hb dX3_evenness_48 rfl (lv_at hl 1 rfl) ?_
    refine va_get (D := D) (ci := 3) (v := .ref q_years) (C := RX3) (T := TX3) (N := 2) hx hb hts hn_X3_evenness_X3 hown hK hP 0 rfl rfl 0 (by decide) (hts _ hw_X3_evenness_f9) (fun _ h9 => h9) rfl dX3_evenness_49 ?_
    refine lv_iload_n hx hb dX3_evenness_52 rfl (lv_at hl 3 rfl) ?_
    refine va_iald hx hb hK hP 1 1 rfl rfl g_4 dX3_evenness_53 ?_
    refine lv_aload_n hx hb dX3_evenness_54 rfl (lv_at hl 1 rfl) ?_
    refine va_get (D := D) (ci := 3) (v := .ref q_years) (C := RX3) (T := TX3) (N := 2) hx hb hts hn_X3_evenness_X3 hown hK hP 0 rfl rfl 0 (by decide) (hts _ hw_X3_evenness_f9) (fun _ h9 => h9) rfl dX3_evenness_55 ?_
    refine lv_iload_n hx hb dX3_evenness_58 rfl (lv_at hl 3 rfl) ?_
    refine lv_iconst (v := (1 : Int32)) hx hb dX3_evenness_59 (by decide) ?_
    refine lv_isub hx hb dX3_evenness_60 ?_
    refine va_iald hx hb hK hP 1 1 rfl rfl g_5 dX3_evenness_61 ?_
    refine lv_isub hx hb dX3_evenness_62 ?_
    refine va_mmax hx hb (hml.trans hl.1.symm) hown (hts _ hw_X3_evenness_m40) (hts _ hw_X3_evenness_smax) (hts _ hw_X3_evenness_imath) (hts _ hw_X3_evenness_kmax) (Nat.le_of_ble_eq_true rfl) (Nat.le_of_ble_eq_true rfl) (Nat.zero_le _) (Nat.zero_le _) dX3_evenness_63 ?_
    refine lv_topi (fun x2_7 ex2_7 => ?_)
    have hf := plt_e ex2_7 hf
    refine lv_istore_n (lv' := [(2, .int x2_7), (1, .int x1_6), (0, .ref a0), (3, .int x3)]) hx hb dX3_evenness_66 rfl hl (by decide) rfl (fun ls hl => ?_)
    obtain ⟨x3_8, ex3_8⟩ : ∃ z : Int32, z = x3 + (1 : Int32) := ⟨_, rfl⟩
    have hf := plt_e ex3_8 hf
    refine lv_iinc (v := x3_8) (lv' := [(3, .int x3_8), (2, .int x2_7), (1, .int x1_6), (0, .ref a0)]) hx hb dX3_evenness_67 hl (k := 3) rfl (by rw [ex3_8]; rfl) (by decide) rfl (fun ls hl => ?_)
    refine lv_goto (tgt := 19) hx hb dX3_evenness_70 (by decide) ?_
    exact ih x1_6 x2_7 x3_8 hf _ _ hP hD hS ls (lv_sub hl [3, 2, 1, 0] rfl)

def f_X3_evenness (s_count : Int32) (s_years : Nat → Int32) : Option ((Int32)) :=
  pbr ((2 : Int32) ≤ s_count)
    (f_X3_evenness_19 s_count s_years FU (9999 : Int32) (0 : Int32) (1 : Int32))
    (some ((-9 : Int32)))

set_option maxRecDepth 100000 in
set_option maxHeartbeats 4000000 in
theorem ct_X3_evenness (l : Launch) (D : va_G) (cA : Nat → ClassId) (a0 : Nat) (q_years : Nat) (s_count : Int32) (s_years : Nat → Int32) (o_r : Int32) (hf : f_X3_evenness s_count s_years = some o_r) : CT l yX3_evenness wsX3_evenness rm_X3_evenness D cA [.ref a0] (w_X3_evenness a0 q_years cA s_count s_years) (w_X3_evenness a0 q_years cA s_count s_years) (some (.int o_r)) := by
  refine CT.ofW (cc := cX3_evenness) (maxL := 4) (ret := (some .int)) (by decide +kernel) rfl (Nat.le_of_ble_eq_true rfl) ?_
  intro p e s m below meth c A C0 hA hP hD ls hl
  have C0 : MX p s m [.ref a0].toArray meth c cX3_evenness 4 wsX3_evenness RX3 (some .int) D cA := C0
  have hl : lv_has ls 4 [(0, .ref a0)] := hl
  obtain ⟨hx, hb, hml, hown, hts, hr, hlocks, hX⟩ := id C0
  have hK := hX.1
  have hN := hX.2
  have hS : va_S A s.heap s.heap [] := va_S.rf
  unfold f_X3_evenness at hf
  refine lv_aload_n hx hb dX3_evenness_0 rfl (lv_at hl 0 rfl) ?_
  refine va_get (D := D) (ci := 3) (v := .int s_count) (C := RX3) (T := TX3) (N := 2) hx hb hts hn_X3_evenness_X3 hown hK hP 0 rfl rfl 1 (by decide) (hts _ hw_X3_evenness_f15) (fun _ h9 => h9) rfl dX3_evenness_1 ?_
  refine lv_iconst (v := (2 : Int32)) hx hb dX3_evenness_4 (by decide) ?_
  refine lv_icmp_ge (tgt := 11) hx hb dX3_evenness_5 (by decide) (fun c_1 => ?_) (fun c_1 => ?_)
  · have hf := pbr_t c_1 hf
    refine lv_sipush (v := (9999 : Int32)) hx hb dX3_evenness_11 (by decide) ?_
    refine lv_istore_n (lv' := [(1, .int (9999 : Int32)), (0, .ref a0)]) hx hb dX3_evenness_14 rfl hl (by decide) rfl (fun ls hl => ?_)
    refine lv_iconst (v := (0 : Int32)) hx hb dX3_evenness_15 (by decide) ?_
    refine lv_istore_n (lv' := [(2, .int (0 : Int32)), (1, .int (9999 : Int32)), (0, .ref a0)]) hx hb dX3_evenness_16 rfl hl (by decide) rfl (fun ls hl => ?_)
    refine lv_iconst (v := (1 : Int32)) hx hb dX3_evenness_17 (by decide) ?_
    refine lv_istore_n (lv' := [(3, .int (1 : Int32)), (2, .int (0 : Int32)), (1, .int (9999 : Int32)), (0, .ref a0)]) hx hb dX3_evenness_18 rfl hl (by decide) rfl (fun ls hl => ?_)
    exact k_X3_evenness_19 C0 hA FU (9999 : Int32) (0 : Int32) (1 : Int32) hf _ _ hP hD hS ls (lv_sub hl [3, 2, 1, 0] rfl)
  have hf := pbr_f c_1 hf
  refine lv_bipush (v := (-9 : Int32)) hx hb dX3_evenness_8 (by decide) ?_
  obtain rfl := pe1 hf
  exact m_iret hx hb hr hlocks hP hS dX3_evenness_10
