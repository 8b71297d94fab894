/-! ===== java/lang/Integer.compare(II)I ===== -/
abbrev rm_J6_compare_7cf53 : Room := { frames := 0, cells := 0, slots := 0, locals := 0 }
abbrev w_J6_compare_7cf53  (cA : Nat → ClassId)  : va_W := []

def f_J6_compare_7cf53 (x0 : Int32) (x1 : Int32) : Option ((Int32)) :=
  pbr (x1 ≤ x0)
    (pbr (x0 = x1)
      (some ((0 : Int32)))
      (some ((1 : Int32))))
    (some ((-1 : Int32)))

set_option maxRecDepth 100000 in
set_option maxHeartbeats 4000000 in
theorem ct_J6_compare_7cf53 (l : Launch) (D : va_G) (cA : Nat → ClassId) (x0 : Int32) (x1 : Int32) (o_r : Int32) (hf : f_J6_compare_7cf53 x0 x1 = some o_r) : CT l yJ6_compare_7cf53 wsJ6_compare_7cf53 rm_J6_compare_7cf53 D cA [.int x0, .int x1] (w_J6_compare_7cf53  cA ) (w_J6_compare_7cf53  cA ) (some (.int o_r)) := by
  refine CT.ofW (cc := cJ6_compare_7cf53) (maxL := 2) (ret := (some .int)) (by decide +kernel) rfl (Nat.le_of_ble_eq_true rfl) ?_
  intro p e s m below meth c A C0 hA hP hD ls hl
  have C0 : MX p s m [.int x0, .int x1].toArray meth c cJ6_compare_7cf53 2 wsJ6_compare_7cf53 RJ6 (some .int) D cA := C0
  have hl : lv_has ls 2 [(0, .int x0), (1, .int x1)] := hl
  obtain ⟨hx, hb, hml, hown, hts, hr, hlocks, hX⟩ := id C0
  have hK := hX.1
  have hN := hX.2
  have hS : va_S A s.heap s.heap [] := va_S.rf
  unfold f_J6_compare_7cf53 at hf
  refine lv_iload_n hx hb dJ6_compare_7cf53_0 rfl (lv_at hl 0 rfl) ?_
  refine lv_iload_n hx hb dJ6_compare_7cf53_1 rfl (lv_at hl 1 rfl) ?_
  refine lv_icmp_ge (tgt := 9) hx hb dJ6_compare_7cf53_2 (by decide) (fun c_1 => ?_) (fun c_1 => ?_)
  · have hf := pbr_t c_1 hf
    refine lv_iload_n hx hb dJ6_compare_7cf53_9 rfl (lv_at hl 0 rfl) ?_
    refine lv_iload_n hx hb dJ6_compare_7cf53_10 rfl (lv_at hl 1 rfl) ?_
    refine lv_icmp_ne (tgt := 18) hx hb dJ6_compare_7cf53_11 (by decide) (fun c_2 => ?_) (fun c_2 => ?_)
    · have hf := pbr_f c_2 hf
      refine lv_iconst (v := (1 : Int32)) hx hb dJ6_compare_7cf53_18 (by decide) ?_
      obtain rfl := pe1 hf
      exact m_iret hx hb hr hlocks hP hS dJ6_compare_7cf53_19
    have hf := pbr_t c_2 hf
    refine lv_iconst (v := (0 : Int32)) hx hb dJ6_compare_7cf53_14 (by decide) ?_
    refine lv_goto (tgt := 19) hx hb dJ6_compare_7cf53_15 (by decide) ?_
    obtain rfl := pe1 hf
    exact m_iret hx hb hr hlocks hP hS dJ6_compare_7cf53_19
  have hf := pbr_f c_1 hf
  refine lv_iconst (v := (-1 : Int32)) hx hb dJ6_compare_7cf53_5 (by decide) ?_
  refine lv_goto (tgt := 19) hx hb dJ6_compare_7cf53_6 (by decide) ?_
  obtain rfl := pe1 hf
  exact m_iret hx hb hr hlocks hP hS dJ6_compare_7cf53_19

/-! ===== java/lang/Integer.bitCount(I)I ===== -/
abbrev rm_J6_bitCount_0f7a4 : Room := { frames := 0, cells := 0, slots := 0, locals := 0 }
abbrev w_J6_bitCount_0f7a4  (cA : Nat → ClassId)  : va_W := []
theorem hw_J6_bitCount_0f7a4_c265 : Cond.constant RJ6 265 (1431655765) ∈ wsJ6_bitCount_0f7a4 := by decide +kernel
theorem hw_J6_bitCount_0f7a4_c266 : Cond.constant RJ6 266 (858993459) ∈ wsJ6_bitCount_0f7a4 := by decide +kernel
theorem hw_J6_bitCount_0f7a4_c267 : Cond.constant RJ6 267 (252645135) ∈ wsJ6_bitCount_0f7a4 := by decide +kernel

def f_J6_bitCount_0f7a4 (x0 : Int32) : Option ((Int32)) :=
  plt ((x0 - ((x0.toUInt32 >>> ((1 : Int32).toUInt32 &&& Int32.toUInt32 31)).toInt32 &&& (1431655765 : Int32))) : Int32) (fun x0_1 => (
  plt (((x0_1 &&& (858993459 : Int32)) + ((x0_1.toUInt32 >>> ((2 : Int32).toUInt32 &&& Int32.toUInt32 31)).toInt32 &&& (858993459 : Int32))) : Int32) (fun x0_2 => (
  plt (((x0_2 + (x0_2.toUInt32 >>> ((4 : Int32).toUInt32 &&& Int32.toUInt32 31)).toInt32) &&& (252645135 : Int32)) : Int32) (fun x0_3 => (
  plt ((x0_3 + (x0_3.toUInt32 >>> ((8 : Int32).toUInt32 &&& Int32.toUInt32 31)).toInt32) : Int32) (fun x0_4 => (
  plt ((x0_4 + (x0_4.toUInt32 >>> ((16 : Int32).toUInt32 &&& Int32.toUInt32 31)).toInt32) : Int32) (fun x0_5 => (
  some ((x0_5 &&& (63 : Int32)))))))))))))

set_option maxRecDepth 100000 in
set_option maxHeartbeats 4000000 in
theorem ct_J6_bitCount_0f7a4 (l : Launch) (D : va_G) (cA : Nat → ClassId) (x0 : Int32) (o_r : Int32) (hf : f_J6_bitCount_0f7a4 x0 = some o_r) : CT l yJ6_bitCount_0f7a4 wsJ6_bitCount_0f7a4 rm_J6_bitCount_0f7a4 D cA [.int x0] (w_J6_bitCount_0f7a4  cA ) (w_J6_bitCount_0f7a4  cA ) (some (.int o_r)) := by
  refine CT.ofW (cc := cJ6_bitCount_0f7a4) (maxL := 1) (ret := (some .int)) (by decide +kernel) rfl (Nat.le_of_ble_eq_true rfl) ?_
  intro p e s m below meth c A C0 hA hP hD ls hl
  have C0 : MX p s m [.int x0].toArray meth c cJ6_bitCount_0f7a4 1 wsJ6_bitCount_0f7a4 RJ6 (some .int) D cA := C0
  have hl : lv_has ls 1 [(0, .int x0)] := hl
  obtain ⟨hx, hb, hml, hown, hts, hr, hlocks, hX⟩ := id C0
  have hK := hX.1
  have hN := hX.2
  have hS : va_S A s.heap s.heap [] := va_S.rf
  unfold f_J6_bitCount_0f7a4 at hf
  refine lv_iload_n hx hb dJ6_bitCount_0f7a4_0 rfl (lv_at hl 0 rfl) ?_
  refine lv_iload_n hx hb dJ6_bitCount_0f7a4_1 rfl (lv_at hl 0 rfl) ?_
  refine lv_iconst (v := (1 : Int32)) hx hb dJ6_bitCount_0f7a4_2 (by decide) ?_
  refine lv_iushr hx hb dJ6_bitCount_0f7a4_3 rfl ?_
  refine lv_ldcw (v := (1431655765 : Int32)) hx hb hown (hts _ hw_J6_bitCount_0f7a4_c265) dJ6_bitCount_0f7a4_4 ?_
  refine lv_iand hx hb dJ6_bitCount_0f7a4_7 ?_
  refine lv_isub hx hb dJ6_bitCount_0f7a4_8 ?_
  refine lv_topi (fun x0_1 ex0_1 => ?_)
  have hf := plt_e ex0_1 hf
  refine lv_istore_n (lv' := [(0, .int x0_1)]) hx hb dJ6_bitCount_0f7a4_9 rfl hl (by decide) rfl (fun ls hl => ?_)
  refine lv_iload_n hx hb dJ6_bitCount_0f7a4_10 rfl (lv_at hl 0 rfl) ?_
  refine lv_ldcw (v := (858993459 : Int32)) hx hb hown (hts _ hw_J6_bitCount_0f7a4_c266) dJ6_bitCount_0f7a4_11 ?_
  refine lv_iand hx hb dJ6_bitCount_0f7a4_14 ?_
  refine lv_iload_n hx hb dJ6_bitCount_0f7a4_15 rfl (lv_at hl 0 rfl) ?_
  refine lv_iconst (v := (2 : Int32)) hx hb dJ6_bitCount_0f7a4_16 (by decide) ?_
  refine lv_iushr hx hb dJ6_bitCount_0f7a4_17 rfl ?_
  refine lv_ldcw (v := (858993459 : Int32)) hx hb hown (hts _ hw_J6_bitCount_0f7a4_c266) dJ6_bitCount_0f7a4_18 ?_
  refine lv_iand hx hb dJ6_bitCount_0f7a4_21 ?_
  refine lv_iadd hx hb dJ6_bitCount_0f7a4_22 ?_
  refine lv_topi (fun x0_2 ex0_2 => ?_)
  have hf := plt_e ex0_2 hf
  refine lv_istore_n (lv' := [(0, .int x0_2)]) hx hb dJ6_bitCount_0f7a4_23 rfl hl (by decide) rfl (fun ls hl => ?_)
  refine lv_iload_n hx hb dJ6_bitCount_0f7a4_24 rfl (lv_at hl 0 rfl) ?_
  refine lv_iload_n hx hb dJ6_bitCount_0f7a4_25 rfl (lv_at hl 0 rfl) ?_
  refine lv_iconst (v := (4 : Int32)) hx hb dJ6_bitCount_0f7a4_26 (by decide) ?_
  refine lv_iushr hx hb dJ6_bitCount_0f7a4_27 rfl ?_
  refine lv_iadd hx hb dJ6_bitCount_0f7a4_28 ?_
  refine lv_ldcw (v := (252645135 : Int32)) hx hb hown (hts _ hw_J6_bitCount_0f7a4_c267) dJ6_bitCount_0f7a4_29 ?_
  refine lv_iand hx hb dJ6_bitCount_0f7a4_32 ?_
  refine lv_topi (fun x0_3 ex0_3 => ?_)
  have hf := plt_e ex0_3 hf
  refine lv_istore_n (lv' := [(0, .int x0_3)]) hx hb dJ6_bitCount_0f7a4_33 rfl hl (by decide) rfl (fun ls hl => ?_)
  refine lv_iload_n hx hb dJ6_bitCount_0f7a4_34 rfl (lv_at hl 0 rfl) ?_
  refine lv_iload_n hx hb dJ6_bitCount_0f7a4_35 rfl (lv_at hl 0 rfl) ?_
  refine lv_bipush (v := (8 : Int32)) hx hb dJ6_bitCount_0f7a4_36 (by decide) ?_
  refine lv_iushr hx hb dJ6_bitCount_0f7a4_38 rfl ?_
  refine lv_iadd hx hb dJ6_bitCount_0f7a4_39 ?_
  refine lv_topi (fun x0_4 ex0_4 => ?_)
  have hf := plt_e ex0_4 hf
  refine lv_istore_n (lv' := [(0, .int x0_4)]) hx hb dJ6_bitCount_0f7a4_40 rfl hl (by decide) rfl (fun ls hl => ?_)
  refine lv_iload_n hx hb dJ6_bitCount_0f7a4_41 rfl (lv_at hl 0 rfl) ?_
  refine lv_iload_n hx hb dJ6_bitCount_0f7a4_42 rfl (lv_at hl 0 rfl) ?_
  refine lv_bipush (v := (16 : Int32)) hx hb dJ6_bitCount_0f7a4_43 (by decide) ?_
  refine lv_iushr hx hb dJ6_bitCount_0f7a4_45 rfl ?_
  refine lv_iadd hx hb dJ6_bitCount_0f7a4_46 ?_
  refine lv_topi (fun x0_5 ex0_5 => ?_)
  have hf := plt_e ex0_5 hf
  refine lv_istore_n (lv' := [(0, .int x0_5)]) hx hb dJ6_bitCount_0f7a4_47 rfl hl (by decide) rfl (fun ls hl => ?_)
  refine lv_iload_n hx hb dJ6_bitCount_0f7a4_48 rfl (lv_at hl 0 rfl) ?_
  refine lv_bipush (v := (63 : Int32)) hx hb dJ6_bitCount_0f7a4_49 (by decide) ?_
  refine lv_iand hx hb dJ6_bitCount_0f7a4_51 ?_
  obtain rfl := pe1 hf
  exact m_iret hx hb hr hlocks hP hS dJ6_bitCount_0f7a4_52
