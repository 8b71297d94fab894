/-! ===== OrphanWave$Stories.weightBehind(III)J ===== -/
abbrev rm_X8_weightBehind : Room := { frames := 0, cells := 0, slots := 0, locals := 0 }
abbrev wx_X8_weightBehind (a0 : Nat) (q_found : Nat) (q_found_weights : Nat) (q_chances : Nat) (q_behind : Nat) (q_found_books : Nat) (q_found_sheets : Nat) (q_found_known : Nat) (r_chances : Nat → Nat) (cA : Nat → ClassId) (s_found_dugMarshes : Int32) (s_found_kept : Int32) (s_found_weights : Nat → Int64) (s_chances : Nat → Nat → Int32) : va_W := [(a0, .inr (8, [.ref q_found, .ref q_chances, .ref q_behind])), (q_found, .inr (2, [.ref q_found_books, .ref q_found_sheets, .ref q_found_known, .ref q_found_weights, .int s_found_dugMarshes, .int s_found_kept])), (q_found_weights, .inl (cA 2, 5, .inr (.inl s_found_weights))), (q_chances, .inl (cA 5, 5, .inr (.inr (.inr (.inr (gro 5 r_chances))))))]
abbrev w_X8_weightBehind (a0 : Nat) (q_found : Nat) (q_found_weights : Nat) (q_chances : Nat) (q_behind : Nat) (q_found_books : Nat) (q_found_sheets : Nat) (q_found_known : Nat) (r_chances : Nat → Nat) (cA : Nat → ClassId) (s_found_dugMarshes : Int32) (s_found_kept : Int32) (s_found_weights : Nat → Int64) (s_chances : Nat → Nat → Int32) : va_W := [(a0, .inr (8, [.ref q_found, .ref q_chances, .ref q_behind])), (q_found, .inr (2, [.ref q_found_books, .ref q_found_sheets, .ref q_found_known, .ref q_found_weights, .int s_found_dugMarshes, .int s_found_kept])), (q_found_weights, .inl (cA 2, 5, .inr (.inl s_found_weights))), (q_chances, .inl (cA 5, 5, .inr (.inr (.inr (.inr (gro 5 r_chances))))))] ++ grw 5 r_chances (cA 1) 6 s_chances
theorem hn_X8_weightBehind_X8 : ∀ w ∈ u_ws RX8 TX8 3, w ∈ wsX8_weightBehind := by decide +kernel
theorem hn_X8_weightBehind_X2 : ∀ w ∈ u_ws RX2 TX2 6, w ∈ wsX8_weightBehind := by decide +kernel
theorem hw_X8_weightBehind_f11 : Cond.fieldLink RX8 11 "OrphanWave$Stories" "chances" "[[I" ∈ wsX8_weightBehind := by decide +kernel
theorem hw_X8_weightBehind_f20 : Cond.fieldLink RX8 20 "OrphanWave$Stories" "found" "LOrphanWave$Findings;" ∈ wsX8_weightBehind := by decide +kernel

def f_X8_weightBehind (x1 : Int32) (x2 : Int32) (x3 : Int32) (s_found_weights : Nat → Int64) (s_chances : Nat → Nat → Int32) : Option ((Int64)) :=
  pgd (pin x1 5) (
  pgd (pin x2 6) (
  plt ((s_chances x1.toNatClampNeg x2.toNatClampNeg) : Int32) (fun x4_3 => (
  pbr (x3 = (1 : Int32))
    (some (((s_found_weights x1.toNatClampNeg) * x4_3.toInt64)))
    (some (((s_found_weights x1.toNatClampNeg) * ((10 : Int32) - x4_3).toInt64)))))))

set_option maxRecDepth 100000 in
set_option maxHeartbeats 4000000 in
theorem ct_X8_weightBehind (l : Launch) (D : va_G) (cA : Nat → ClassId) (x1 : Int32) (x2 : Int32) (x3 : Int32) (a0 : Nat) (q_found : Nat) (q_found_weights : Nat) (q_chances : Nat) (q_behind : Nat) (q_found_books : Nat) (q_found_sheets : Nat) (q_found_known : Nat) (r_chances : Nat → Nat) (s_found_dugMarshes : Int32) (s_found_kept : Int32) (s_found_weights : Nat → Int64) (s_chances : Nat → Nat → Int32) (o_r : Int64) (hf : f_X8_weightBehind x1 x2 x3 s_found_weights s_chances = some o_r) : CT l yX8_weightBehind wsX8_weightBehind rm_X8_weightBehind D cA [.ref a0, .int x1, .int x2, .int x3] (w_X8_weightBehind a0 q_found q_found_weights q_chances q_behind q_found_books q_found_sheets q_found_known r_chances cA s_found_dugMarshes s_found_kept s_found_weights s_chances) (w_X8_weightBehind a0 q_found q_found_weights q_chances q_behind q_found_books q_found_sheets q_found_known r_chances cA s_found_dugMarshes s_found_kept s_found_weights s_chances) (some (.long o_r)) := by
  refine CT.ofW (cc := cX8_weightBehind) (maxL := 5) (ret := (some .long)) (by decide +kernel) rfl (Nat.le_of_ble_eq_true rfl) ?_
  intro p e s m below meth c A C0 hA hP hD ls hl
  have C0 : MX p s m [.ref a0, .int x1, .int x2, .int x3].toArray meth c cX8_weightBehind 5 wsX8_weightBehind RX8 (some .long) D cA := C0
  have hl : lv_has ls 5 [(0, .ref a0), (1, .int x1), (2, .int x2), (3, .int x3)] := hl
  obtain ⟨hx, hb, hml, hown, hts, hr, hlocks, hX⟩ := id C0
  have hK := hX.1
  have hN := hX.2
  have hS : va_S A s.heap s.heap [] := va_S.rf
  unfold f_X8_weightBehind at hf
  refine lv_aload_n hx hb dX8_weightBehind_0 rfl (lv_at hl 0 rfl) ?_
  refine va_get (D := D) (ci := 8) (v := .ref q_chances) (C := RX8) (T := TX8) (N := 3) hx hb hts hn_X8_weightBehind_X8 hown hK hP 0 rfl rfl 1 (by decide) (hts _ hw_X8_weightBehind_f11) (fun _ h9 => h9) rfl dX8_weightBehind_1 ?_
  refine lv_iload_n hx hb dX8_weightBehind_4 rfl (lv_at hl 1 rfl) ?_
  obtain ⟨g_1, hf⟩ := pgd_e hf
  refine m_aald hx hb hK hP 3 rfl g_1 dX8_weightBehind_5 ?_
  refine lv_iload_n hx hb dX8_weightBehind_6 rfl (lv_at hl 2 rfl) ?_
  obtain ⟨g_2, hf⟩ := pgd_e hf
  refine m_rald (i := x1) hx hb hK hP rfl g_1 g_2 dX8_weightBehind_7 ?_
  refine lv_topi (fun x4_3 ex4_3 => ?_)
  have hf := plt_e ex4_3 hf
  refine lv_istore (lv' := [(4, .int x4_3), (0, .ref a0), (1, .int x1), (2, .int x2), (3, .int x3)]) hx hb dX8_weightBehind_8 hl (by decide) rfl (fun ls hl => ?_)
  refine lv_aload_n hx hb dX8_weightBehind_10 rfl (lv_at hl 1 rfl) ?_
  refine va_get (D := D) (ci := 8) (v := .ref q_found) (C := RX8) (T := TX8) (N := 3) hx hb hts hn_X8_weightBehind_X8 hown hK hP 0 rfl rfl 0 (by decide) (hts _ hw_X8_weightBehind_f20) (fun _ h9 => h9) rfl dX8_weightBehind_11 ?_
  refine va_getN (D := D) (ci := 2) (v := .ref q_found_weights) (C := RX2) (T := TX2) (N := 6) hx hb hts hn_X8_weightBehind_X2 hown hK hP 1 rfl rfl 3 (by decide) (va_Nw.use rfl (hN _ nw_X8_34)) (fun _ h9 => h9) rfl dX8_weightBehind_14 ?_
  refine lv_iload_n hx hb dX8_weightBehind_17 rfl (lv_at hl 2 rfl) ?_
  refine va_lald hx hb hK hP 2 2 rfl rfl g_1 dX8_weightBehind_18 ?_
  refine lv_iload_n hx hb dX8_weightBehind_19 rfl (lv_at hl 4 rfl) ?_
  refine lv_iconst (v := (1 : Int32)) hx hb dX8_weightBehind_20 (by decide) ?_
  refine lv_icmp_ne (tgt := 29) hx hb dX8_weightBehind_21 (by decide) (fun c_4 => ?_) (fun c_4 => ?_)
  · have hf := pbr_f c_4 hf
    refine lv_bipush (v := (10 : Int32)) hx hb dX8_weightBehind_29 (by decide) ?_
    refine lv_iload hx hb dX8_weightBehind_31 (lv_at hl 0 rfl) ?_
    refine lv_isub hx hb dX8_weightBehind_33 ?_
    refine lv_i2l hx hb dX8_weightBehind_34 rfl ?_
    refine lv_lmul hx hb dX8_weightBehind_35 ?_
    obtain rfl := pe1 hf
    exact m_lret hx hb hr hlocks hP hS dX8_weightBehind_36
  have hf := pbr_t c_4 hf
  refine lv_iload hx hb dX8_weightBehind_24 (lv_at hl 0 rfl) ?_
  refine lv_goto (tgt := 34) hx hb dX8_weightBehind_26 (by decide) ?_
  refine lv_i2l hx hb dX8_weightBehind_34 rfl ?_
  refine lv_lmul hx hb dX8_weightBehind_35 ?_
  obtain rfl := pe1 hf
  exact m_lret hx hb hr hlocks hP hS dX8_weightBehind_36

/-! ===== OrphanWave$Stories.weigh(II)I ===== -/
abbrev rm_X8_weigh : Room := { frames := 1, cells := 0, slots := 0, locals := 30 }
abbrev wx_X8_weigh (a0 : Nat) (q_found : Nat) (q_found_weights : Nat) (q_behind : Nat) (q_chances : Nat) (q_found_books : Nat) (q_found_sheets : Nat) (q_found_known : Nat) (r_chances : Nat → Nat) (cA : Nat → ClassId) (s_found_dugMarshes : Int32) (s_found_kept : Int32) (s_found_weights : Nat → Int64) (s_behind : Nat → Int64) (s_chances : Nat → Nat → Int32) : va_W := [(a0, .inr (8, [.ref q_found, .ref q_chances, .ref q_behind])), (q_found, .inr (2, [.ref q_found_books, .ref q_found_sheets, .ref q_found_known, .ref q_found_weights, .int s_found_dugMarshes, .int s_found_kept])), (q_found_weights, .inl (cA 2, 5, .inr (.inl s_found_weights))), (q_behind, .inl (cA 2, 5, .inr (.inl s_behind))), (q_chances, .inl (cA 5, 5, .inr (.inr (.inr (.inr (gro 5 r_chances))))))]
abbrev w_X8_weigh (a0 : Nat) (q_found : Nat) (q_found_weights : Nat) (q_behind : Nat) (q_chances : Nat) (q_found_books : Nat) (q_found_sheets : Nat) (q_found_known : Nat) (r_chances : Nat → Nat) (cA : Nat → ClassId) (s_found_dugMarshes : Int32) (s_found_kept : Int32) (s_found_weights : Nat → Int64) (s_behind : Nat → Int64) (s_chances : Nat → Nat → Int32) : va_W := [(a0, .inr (8, [.ref q_found, .ref q_chances, .ref q_behind])), (q_found, .inr (2, [.ref q_found_books, .ref q_found_sheets, .ref q_found_known, .ref q_found_weights, .int s_found_dugMarshes, .int s_found_kept])), (q_found_weights, .inl (cA 2, 5, .inr (.inl s_found_weights))), (q_behind, .inl (cA 2, 5, .inr (.inl s_behind))), (q_chances, .inl (cA 5, 5, .inr (.inr (.inr (.inr (gro 5 r_chances))))))] ++ grw 5 r_chances (cA 1) 6 s_chances
theorem hn_X8_weigh_X8 : ∀ w ∈ u_ws RX8 TX8 3, w ∈ wsX8_weigh := by decide +kernel
theorem hw_X8_weigh_f16 : Cond.fieldLink RX8 16 "OrphanWave$Stories" "behind" "[J" ∈ wsX8_weigh := by decide +kernel
theorem hw_X8_weigh_c32 : Cond.constantLong RX8 32 (1000000000000) ∈ wsX8_weigh := by decide +kernel
theorem hw_X8_weigh_iX11 : Cond.initialized RX11 ∈ wsX8_weigh := by decide +kernel
theorem hw_X8_weigh_sX11_commonPart : Cond.static yX11_commonPart ∈ wsX8_weigh := by decide +kernel

def f_X8_weigh_56 (s_found_weights : Nat → Int64) (s_chances : Nat → Nat → Int32) (x1 : Int32) (x2 : Int32) : Nat → (Int64) → (Int32) → (Nat → Int64) → Option ((Int32) × (Nat → Int64))
  | 0, _, _, _ => none
  | k + 1, x3, x5, s_behind =>
    pbr ((5 : Int32) ≤ x5)
      (some ((-1 : Int32), s_behind))
      (pgd (pin x5 5) (
      pgd (¬ x3 = 0) (
      plt (vp_updL s_behind x5.toNatClampNeg ((s_behind x5.toNatClampNeg) / x3) : Nat → Int64) (fun f_4 => (
      pbr ((lg_cmp (f_4 x5.toNatClampNeg) (1000000000000 : Int64)) ≤ 0)
        (plt (x5 + (1 : Int32) : Int32) (fun x5_6 => (
        (f_X8_weigh_56 s_found_weights s_chances x1 x2 k) x3 x5_6 f_4)))
        (some ((-3 : Int32), f_4)))))))

set_option maxRecDepth 100000 in
set_option maxHeartbeats 4000000 in
theorem k_X8_weigh_56 {p : Program} {l : Launch} {e : Env} {s : State} {m : MethodId} {args : Array Value} {below : List Frame} {meth : Method} {c : Code} {A : Nat → Prop} {D : va_G} {cA : Nat → ClassId} (C0 : MX p s m args meth c cX8_weigh 6 wsX8_weigh RX8 (some .int) D cA) (hA : ∀ q, s.heap.size ≤ q → A q) {a0 : Nat} {q_found : Nat} {q_found_weights : Nat} {q_behind : Nat} {q_chances : Nat} {q_found_books : Nat} {q_found_sheets : Nat} {q_found_known : Nat} {r_chances : Nat → Nat} {s_found_dugMarshes : Int32} {s_found_kept : Int32} {s_found_weights : Nat → Int64} {s_chances : Nat → Nat → Int32} {x1 : Int32} {x2 : Int32} {o_r : Int32} {o_behind : Nat → Int64} : ∀ (k : Nat) (x3 : Int64) (x5 : Int32) (s_behind : Nat → Int64), f_X8_weigh_56 s_found_weights s_chances x1 x2 k x3 x5 s_behind = some (o_r, o_behind) → ∀ (H : Heap) (locs : List Loc), va_P D vwCl (w_X8_weigh a0 q_found q_found_weights q_behind q_chances q_found_books q_found_sheets q_found_known r_chances cA s_found_dugMarshes s_found_kept s_found_weights s_behind s_chances) H → va_D A (w_X8_weigh a0 q_found q_found_weights q_behind q_chances q_found_books q_found_sheets q_found_known r_chances cA s_found_dugMarshes s_found_kept s_found_weights s_behind s_chances) → va_S A s.heap H locs → ∀ ls : Array Slot, lv_has ls 6 [(0, .ref a0), (3, .long x3), (5, .int x5)] → W p l e rm_X8_weigh s m args below meth c H locs 0 0 (MQ below (CQ D (some (.int o_r)) (w_X8_weigh a0 q_found q_found_weights q_behind q_chances q_found_books q_found_sheets q_found_known r_chances cA s_found_dugMarshes s_found_kept s_found_weights o_behind s_chances) A) args s 0 0 A) (F0 m 56 ls []) := by
  obtain ⟨hx, hb, hml, hown, hts, hr, hlocks, hX⟩ := C0
  have hK := hX.1
  have hN := hX.2
  intro k
  induction k with
  | zero =>
    intro x3 x5 s_behind hf
    cases hf
  | succ k ih =>
    intro x3 x5 s_behind hf H locs hP hD hS ls hl
    rw [f_X8_weigh_56] at hf
    refine lv_iload hx hb dX8_weigh_56 (lv_at hl 2 rfl) ?_
    refine lv_iconst (v := (5 : Int32)) hx hb dX8_weigh_58 (by decide) ?_
    refine lv_icmp_ge (tgt := 96) hx hb dX8_weigh_59 (by decide) (fun c_1 => ?_) (fun c_1 => ?_)
    · have hf := pbr_t c_1 hf
      refine lv_iconst (v := (-1 : Int32)) hx hb dX8_weigh_96 (by decide) ?_
      obtain ⟨rfl, rfl⟩ := pe2 hf
      exact m_iret hx hb hr hlocks hP hS dX8_weigh_97
    have hf := pbr_f c_1 hf
    refine lv_aload_n hx hb dX8_weigh_62 rfl (lv_at hl 0 rfl) ?_
    refine va_get (D := D) (ci := 8) (v := .ref q_behind) (C := RX8) (T := TX8) (N := 3) hx hb hts hn_X8_weigh_X8 hown hK hP 0 rfl rfl 2 (by decide) (hts _ hw_X8_weigh_f16) (fun _ h9 => h9) rfl dX8_weigh_63 ?_
    refine lv_iload hx hb dX8_weigh_66 (lv_at hl 2 rfl) ?_
    refine lv_dup2_11 hx hb dX8_weigh_68 rfl rfl ?_
    obtain ⟨g_2, hf⟩ := pgd_e hf
    refine va_lald hx hb hK hP 3 2 rfl rfl g_2 dX8_weigh_69 ?_
    refine lv_lload_n hx hb dX8_weigh_70 rfl (lv_at hl 1 rfl) ?_
    obtain ⟨g_3, hf⟩ := pgd_e hf
    refine lv_ldiv hx hb dX8_weigh_71 g_3 ?_
    refine va_last hx hb hK hP hD hS 3 2 rfl rfl g_2 dX8_weigh_72 (fun H locs hP hD hS => ?_)
    obtain ⟨f_4, ef_4⟩ : ∃ z : Nat → Int64, z = vp_updL s_behind x5.toNatClampNeg ((s_behind x5.toNatClampNeg) / x3) := ⟨_, rfl⟩
    have hf := plt_e ef_4 hf
    have hP : va_P D vwCl (w_X8_weigh a0 q_found q_found_weights q_behind q_chances q_found_books q_found_sheets q_found_known r_chances cA s_found_dugMarshes s_found_kept s_found_weights f_4 s_chances) H := by rw [ef_4]; exact hP
    have hD : va_D A (w_X8_weigh a0 q_found q_found_weights q_behind q_chances q_found_books q_found_sheets q_found_known r_chances cA s_found_dugMarshes s_found_kept s_found_weights f_4 s_chances) := by rw [ef_4]; exact hD
    refine lv_aload_n hx hb dX8_weigh_73 rfl (lv_at hl 0 rfl) ?_
    refine va_get (D := D) (ci := 8) (v := .ref q_behind) (C := RX8) (T := TX8) (N := 3) hx hb hts hn_X8_weigh_X8 hown hK hP 0 rfl rfl 2 (by decide) (hts _ hw_X8_weigh_f16) (fun _ h9 => h9) rfl dX8_weigh_74 ?_
    refine lv_iload hx hb dX8_weigh_77 (lv_at hl 2 rfl) ?_
    refine va_lald hx hb hK hP 3 2 rfl rfl g_2 dX8_weigh_79 ?_
    refine lv_ldc2 (v := (1000000000000 : Int64)) hx hb hown (hts _ hw_X8_weigh_c32) dX8_weigh_80 ?_
    refine W.lcmp hx hb dX8_weigh_83 ?_
    refine lv_if_le (tgt := 90) hx hb dX8_weigh_84 (by decide) (fun c_5 => ?_) (fun c_5 => ?_)
    · have hf := pbr_t c_5 hf
      obtain ⟨x5_6, ex5_6⟩ : ∃ z : Int32, z = x5 + (1 : Int32) := ⟨_, rfl⟩
      have hf := plt_e ex5_6 hf
      refine lv_iinc (v := x5_6) (lv' := [(5, .int x5_6), (0, .ref a0), (3, .long x3)]) hx hb dX8_weigh_90 hl (k := 2) rfl (by rw [ex5_6]; rfl) (by decide) rfl (fun ls hl => ?_)
      refine lv_goto (tgt := 56) hx hb dX8_weigh_93 (by decide) ?_
      exact ih x3 x5_6 f_4 hf _ _ hP hD hS ls (lv_sub hl [1, 2, 0] rfl)
    have hf := pbr_f c_5 hf
    refine lv_bipush (v := (-3 : Int32)) hx hb dX8_weigh_87 (by decide) ?_
    obtain ⟨rfl, rfl⟩ := pe2 hf
    exact m_iret hx hb hr hlocks hP hS dX8_weigh_89

def f_X8_weigh_5 (s_found_weights : Nat → Int64) (s_chances : Nat → Nat → Int32) (x1 : Int32) (x2 : Int32) : Nat → (Int64) → (Int32) → (Nat → Int64) → Option ((Int32) × (Nat → Int64))
  | 0, _, _, _ => none
  | k + 1, x3, x5, s_behind =>
    pbr ((5 : Int32) ≤ x5)
      (pbr ((lg_cmp x3 (0 : Int64)) = 0)
        (some ((-2 : Int32), s_behind))
        (f_X8_weigh_56 s_found_weights s_chances x1 x2 FU x3 (0 : Int32) s_behind))
      (pcl (f_X8_weightBehind x5 x1 x2 s_found_weights s_chances) (fun r_3 => (
      pgd (pin x5 5) (
      plt (vp_updL s_behind x5.toNatClampNeg r_3 : Nat → Int64) (fun f_6 => (
      pcl (f_X11_commonPart x3 (f_6 x5.toNatClampNeg)) (fun r_7 => (
      plt (x5 + (1 : Int32) : Int32) (fun x5_9 => (
      (f_X8_weigh_5 s_found_weights s_chances x1 x2 k) r_7 x5_9 f_6))))))))))

set_option maxRecDepth 100000 in
set_option maxHeartbeats 4000000 in
theorem k_X8_weigh_5 {p : Program} {l : Launch} {e : Env} {s : State} {m : MethodId} {args : Array Value} {below : List Frame} {meth : Method} {c : Code} {A : Nat → Prop} {D : va_G} {cA : Nat → ClassId} (C0 : MX p s m args meth c cX8_weigh 6 wsX8_weigh RX8 (some .int) D cA) (hA : ∀ q, s.heap.size ≤ q → A q) {a0 : Nat} {q_found : Nat} {q_found_weights : Nat} {q_behind : Nat} {q_chances : Nat} {q_found_books : Nat} {q_found_sheets : Nat} {q_found_known : Nat} {r_chances : Nat → Nat} {s_found_dugMarshes : Int32} {s_found_kept : Int32} {s_found_weights : Nat → Int64} {s_chances : Nat → Nat → Int32} {x1 : Int32} {x2 : Int32} {o_r : Int32} {o_behind : Nat → Int64} : ∀ (k : Nat) (x3 : Int64) (x5 : Int32) (s_behind : Nat → Int64), f_X8_weigh_5 s_found_weights s_chances x1 x2 k x3 x5 s_behind = some (o_r, o_behind) → ∀ (H : Heap) (locs : List Loc), va_P D vwCl (w_X8_weigh a0 q_found q_found_weights q_behind q_chances q_found_books q_found_sheets q_found_known r_chances cA s_found_dugMarshes s_found_kept s_found_weights s_behind s_chances) H → va_D A (w_X8_weigh a0 q_found q_found_weights q_behind q_chances q_found_books q_found_sheets q_found_known r_chances cA s_found_dugMarshes s_found_kept s_found_weights s_behind s_chances) → va_S A s.heap H locs → ∀ ls : Array Slot, lv_has ls 6 [(0, .ref a0), (1, .int x1), (2, .int x2), (3, .long x3), (5, .int x5)] → W p l e rm_X8_weigh s m args below meth c H locs 0 0 (MQ below (CQ D (some (.int o_r)) (w_X8_weigh a0 q_found q_found_weights q_behind q_chances q_found_books q_found_sheets q_found_known r_chances cA s_found_dugMarshes s_found_kept s_found_weights o_behind s_chances) A) args s 0 0 A) (F0 m 5 ls []) := by
  obtain ⟨hx, hb, hml, hown, hts, hr, hlocks, hX⟩ := C0
  have hK := hX.1
  have hN := hX.2
  intro k
  induction k with
  | zero =>
    intro x3 x5 s_behind hf
    cases hf
  | succ k ih =>
    intro x3 x5 s_behind hf H locs hP hD hS ls hl
    rw [f_X8_weigh_5] at hf
    refine lv_iload hx hb dX8_weigh_5 (lv_at hl 4 rfl) ?_
    refine lv_iconst (v := (5 : Int32)) hx hb dX8_weigh_7 (by decide) ?_
    refine lv_icmp_ge (tgt := 44) hx hb dX8_weigh_8 (by decide) (fun c_1 => ?_) (fun c_1 => ?_)
    · have hf := pbr_t c_1 hf
      refine lv_lload_n hx hb dX8_weigh_44 rfl (lv_at hl 3 rfl) ?_
      refine lv_lconst (v := (0 : Int64)) hx hb dX8_weigh_45 (by decide) ?_
      refine W.lcmp hx hb dX8_weigh_46 ?_
      refine lv_if_ne (tgt := 53) hx hb dX8_weigh_47 (by decide) (fun c_2 => ?_) (fun c_2 => ?_)
      · have hf := pbr_f c_2 hf
        refine lv_iconst (v := (0 : Int32)) hx hb dX8_weigh_53 (by decide) ?_
        refine lv_istore (lv' := [(5, .int (0 : Int32)), (0, .ref a0), (1, .int x1), (2, .int x2), (3, .long x3)]) hx hb dX8_weigh_54 hl (by decide) rfl (fun ls hl => ?_)
        exact k_X8_weigh_56 ⟨hx, hb, hml, hown, hts, hr, hlocks, hX⟩ hA FU x3 (0 : Int32) s_behind hf _ _ hP hD hS ls (lv_sub hl [1, 4, 0] rfl)
      have hf := pbr_t c_2 hf
      refine lv_bipush (v := (-2 : Int32)) hx hb dX8_weigh_50 (by decide) ?_
      obtain ⟨rfl, rfl⟩ := pe2 hf
      exact m_iret hx hb hr hlocks hP hS dX8_weigh_52
    have hf := pbr_f c_1 hf
    refine lv_aload_n hx hb dX8_weigh_11 rfl (lv_at hl 0 rfl) ?_
    refine va_get (D := D) (ci := 8) (v := .ref q_behind) (C := RX8) (T := TX8) (N := 3) hx hb hts hn_X8_weigh_X8 hown hK hP 0 rfl rfl 2 (by decide) (hts _ hw_X8_weigh_f16) (fun _ h9 => h9) rfl dX8_weigh_12 ?_
    refine lv_iload hx hb dX8_weigh_15 (lv_at hl 4 rfl) ?_
    refine lv_aload_n hx hb dX8_weigh_17 rfl (lv_at hl 0 rfl) ?_
    refine lv_iload hx hb dX8_weigh_18 (lv_at hl 4 rfl) ?_
    refine lv_iload_n hx hb dX8_weigh_20 rfl (lv_at hl 1 rfl) ?_
    refine lv_iload_n hx hb dX8_weigh_21 rfl (lv_at hl 2 rfl) ?_
    obtain ⟨r_3, hc_4, hf⟩ := pcl_e hf
    refine m_callV2 (As := [.int x5, .int x1, .int x2]) (rest := [.int x5, .ref q_behind]) ⟨hx, hb, hml, hown, hts⟩ hX (ct_X8_weightBehind l D cA x5 x1 x2 a0 q_found q_found_weights q_chances q_behind q_found_books q_found_sheets q_found_known r_chances s_found_dugMarshes s_found_kept s_found_weights s_chances r_3 hc_4) (cwV 3 hts gX8_weigh_X8_weightBehind rfl rfl rfl (by decide +kernel) ⟨Nat.le_of_ble_eq_true rfl, Nat.le_of_ble_eq_true rfl⟩) hP hD hS hA [0, 1, 2, 4, 5, 6, 7, 8, 9] [3] 10 (by decide) rfl rfl (WS' := (w_X8_weigh a0 q_found q_found_weights q_behind q_chances q_found_books q_found_sheets q_found_known r_chances cA s_found_dugMarshes s_found_kept s_found_weights s_behind s_chances)) (WR := [(q_behind, .inl (cA 2, 5, .inr (.inl s_behind)))]) rfl rfl rfl rfl (by decide) (by decide) 0 8 rfl rfl rfl hl.1 rfl (st' := [.long r_3, .int x5, .ref q_behind]) rfl (Nat.le_of_ble_eq_true rfl) ⟨Nat.zero_le _, Nat.zero_le _⟩ dX8_weigh_22 (fun H locs hP hD hS => ?_)
    obtain ⟨g_5, hf⟩ := pgd_e hf
    refine va_last hx hb hK hP hD hS 3 2 rfl rfl g_5 dX8_weigh_25 (fun H locs hP hD hS => ?_)
    obtain ⟨f_6, ef_6⟩ : ∃ z : Nat → Int64, z = vp_updL s_behind x5.toNatClampNeg r_3 := ⟨_, rfl⟩
    have hf := plt_e ef_6 hf
    have hP : va_P D vwCl (w_X8_weigh a0 q_found q_found_weights q_behind q_chances q_found_books q_found_sheets q_found_known r_chances cA s_found_dugMarshes s_found_kept s_found_weights f_6 s_chances) H := by rw [ef_6]; exact hP
    have hD : va_D A (w_X8_weigh a0 q_found q_found_weights q_behind q_chances q_found_books q_found_sheets q_found_known r_chances cA s_found_dugMarshes s_found_kept s_found_weights f_6 s_chances) := by rw [ef_6]; exact hD
    refine lv_lload_n hx hb dX8_weigh_26 rfl (lv_at hl 3 rfl) ?_
    refine lv_aload_n hx hb dX8_weigh_27 rfl (lv_at hl 0 rfl) ?_
    refine va_get (D := D) (ci := 8) (v := .ref q_behind) (C := RX8) (T := TX8) (N := 3) hx hb hts hn_X8_weigh_X8 hown hK hP 0 rfl rfl 2 (by decide) (hts _ hw_X8_weigh_f16) (fun _ h9 => h9) rfl dX8_weigh_28 ?_
    refine lv_iload hx hb dX8_weigh_31 (lv_at hl 4 rfl) ?_
    refine va_lald hx hb hK hP 3 2 rfl rfl g_5 dX8_weigh_33 ?_
    obtain ⟨r_7, hc_8, hf⟩ := pcl_e hf
    refine m_callSN2 (As := [.long x3, .long (f_6 x5.toNatClampNeg)]) (rest := []) ⟨hx, hb, hml, hown, hts⟩ hX (ct_X11_commonPart l D cA x3 (f_6 x5.toNatClampNeg) r_7 hc_8) ⟨va_cnB 2 hts ggX8_weigh_X11_commonPart rfl rfl rfl (hN _ nw_X8_28) (hts _ hw_X8_weigh_iX11) (by decide +kernel) ⟨Nat.le_of_ble_eq_true rfl, Nat.le_of_ble_eq_true rfl⟩, hts _ hw_X8_weigh_sX11_commonPart, trivial⟩ hP hD hS hA [] [0, 1, 2, 3, 4, 5, 6, 7, 8, 9] 10 (by decide) rfl rfl (WS' := (w_X8_weigh a0 q_found q_found_weights q_behind q_chances q_found_books q_found_sheets q_found_known r_chances cA s_found_dugMarshes s_found_kept s_found_weights f_6 s_chances)) (WR := [(a0, .inr (8, [.ref q_found, .ref q_chances, .ref q_behind])), (q_found, .inr (2, [.ref q_found_books, .ref q_found_sheets, .ref q_found_known, .ref q_found_weights, .int s_found_dugMarshes, .int s_found_kept])), (q_found_weights, .inl (cA 2, 5, .inr (.inl s_found_weights))), (q_behind, .inl (cA 2, 5, .inr (.inl f_6))), (q_chances, .inl (cA 5, 5, .inr (.inr (.inr (.inr (gro 5 r_chances))))))] ++ grw 5 r_chances (cA 1) 6 s_chances) rfl rfl rfl rfl (by decide) (by decide) rfl hl.1 rfl (st' := [.long r_7]) rfl (Nat.le_of_ble_eq_true rfl) ⟨Nat.zero_le _, Nat.zero_le _⟩ dX8_weigh_34 (fun H locs hP hD hS => ?_)
    refine lv_lstore_n (lv' := [(3, .long r_7), (0, .ref a0), (1, .int x1), (2, .int x2), (5, .int x5)]) hx hb dX8_weigh_37 rfl hl (by decide) rfl (fun ls hl => ?_)
    obtain ⟨x5_9, ex5_9⟩ : ∃ z : Int32, z = x5 + (1 : Int32) := ⟨_, rfl⟩
    have hf := plt_e ex5_9 hf
    refine lv_iinc (v := x5_9) (lv' := [(5, .int x5_9), (3, .long r_7), (0, .ref a0), (1, .int x1), (2, .int x2)]) hx hb dX8_weigh_38 hl (k := 4) rfl (by rw [ex5_9]; rfl) (by decide) rfl (fun ls hl => ?_)
    refine lv_goto (tgt := 5) hx hb dX8_weigh_41 (by decide) ?_
    exact ih r_7 x5_9 f_6 hf _ _ hP hD hS ls (lv_sub hl [2, 3, 4, 1, 0] rfl)

def f_X8_weigh (x1 : Int32) (x2 : Int32) (s_found_weights : Nat → Int64) (s_behind : Nat → Int64) (s_chances : Nat → Nat → Int32) : Option ((Int32) × (Nat → Int64)) :=
  f_X8_weigh_5 s_found_weights s_chances x1 x2 FU (0 : Int64) (0 : Int32) s_behind

set_option maxRecDepth 100000 in
set_option maxHeartbeats 4000000 in
theorem ct_X8_weigh (l : Launch) (D : va_G) (cA : Nat → ClassId) (x1 : Int32) (x2 : Int32) (a0 : Nat) (q_found : Nat) (q_found_weights : Nat) (q_behind : Nat) (q_chances : Nat) (q_found_books : Nat) (q_found_sheets : Nat) (q_found_known : Nat) (r_chances : Nat → Nat) (s_found_dugMarshes : Int32) (s_found_kept : Int32) (s_found_weights : Nat → Int64) (s_behind : Nat → Int64) (s_chances : Nat → Nat → Int32) (o_r : Int32) (o_behind : Nat → Int64) (hf : f_X8_weigh x1 x2 s_found_weights s_behind s_chances = some (o_r, o_behind)) : CT l yX8_weigh wsX8_weigh rm_X8_weigh D cA [.ref a0, .int x1, .int x2] (w_X8_weigh a0 q_found q_found_weights q_behind q_chances q_found_books q_found_sheets q_found_known r_chances cA s_found_dugMarshes s_found_kept s_found_weights s_behind s_chances) (w_X8_weigh a0 q_found q_found_weights q_behind q_chances q_found_books q_found_sheets q_found_known r_chances cA s_found_dugMarshes s_found_kept s_found_weights o_behind s_chances) (some (.int o_r)) := by
  refine CT.ofW (cc := cX8_weigh) (maxL := 6) (ret := (some .int)) (by decide +kernel) rfl (Nat.le_of_ble_eq_true rfl) ?_
  intro p e s m below meth c A C0 hA hP hD ls hl
  have C0 : MX p s m [.ref a0, .int x1, .int x2].toArray meth c cX8_weigh 6 wsX8_weigh RX8 (some .int) D cA := C0
  have hl : lv_has ls 6 [(0, .ref a0), (1, .int x1), (2, .int x2)] := hl
  obtain ⟨hx, hb, hml, hown, hts, hr, hlocks, hX⟩ := id C0
  have hK := hX.1
  have hN := hX.2
  have hS : va_S A s.heap s.heap [] := va_S.rf
  unfold f_X8_weigh at hf
  refine lv_lconst (v := (0 : Int64)) hx hb dX8_weigh_0 (by decide) ?_
  refine lv_lstore_n (lv' := [(3, .long (0 : Int64)), (0, .ref a0), (1, .int x1), (2, .int x2)]) hx hb dX8_weigh_1 rfl hl (by decide) rfl (fun ls hl => ?_)
  refine lv_iconst (v := (0 : Int32)) hx hb dX8_weigh_2 (by decide) ?_
  refine lv_istore (lv' := [(5, .int (0 : Int32)), (3, .long (0 : Int64)), (0, .ref a0), (1, .int x1), (2, .int x2)]) hx hb dX8_weigh_3 hl (by decide) rfl (fun ls hl => ?_)
  exact k_X8_weigh_5 C0 hA FU (0 : Int64) (0 : Int32) s_behind hf _ _ hP hD hS ls (lv_sub hl [2, 3, 4, 1, 0] rfl)

/-! ===== OrphanWave$Stories.settle(I)V ===== -/
abbrev rm_X8_settle : Room := { frames := 1, cells := 0, slots := 0, locals := 18 }
abbrev w_X8_settle (a0 : Nat) (q_found : Nat) (q_behind : Nat) (q_found_weights : Nat) (q_chances : Nat) (q_found_books : Nat) (q_found_sheets : Nat) (q_found_known : Nat) (cA : Nat → ClassId) (s_found_dugMarshes : Int32) (s_found_kept : Int32) (s_behind : Nat → Int64) (s_found_weights : Nat → Int64) : va_W := [(a0, .inr (8, [.ref q_found, .ref q_chances, .ref q_behind])), (q_found, .inr (2, [.ref q_found_books, .ref q_found_sheets, .ref q_found_known, .ref q_found_weights, .int s_found_dugMarshes, .int s_found_kept])), (q_behind, .inl (cA 2, 5, .inr (.inl s_behind))), (q_found_weights, .inl (cA 2, 5, .inr (.inl s_found_weights)))]
theorem hn_X8_settle_X8 : ∀ w ∈ u_ws RX8 TX8 3, w ∈ wsX8_settle := by decide +kernel
theorem hn_X8_settle_X2 : ∀ w ∈ u_ws RX2 TX2 6, w ∈ wsX8_settle := by decide +kernel
theorem hw_X8_settle_f16 : Cond.fieldLink RX8 16 "OrphanWave$Stories" "behind" "[J" ∈ wsX8_settle := by decide +kernel
theorem hw_X8_settle_f20 : Cond.fieldLink RX8 20 "OrphanWave$Stories" "found" "LOrphanWave$Findings;" ∈ wsX8_settle := by decide +kernel
theorem hw_X8_settle_m39 : Cond.methodLink RX8 39 arraycopyName ∈ wsX8_settle := by decide +kernel
theorem hw_X8_settle_nac : Cond.native arraycopyName ∈ wsX8_settle := by decide +kernel
theorem hw_X8_settle_sac : Cond.static arraycopyName ∈ wsX8_settle := by decide +kernel
theorem hw_X8_settle_isys : Cond.initialized "java/lang/System" ∈ wsX8_settle := by decide +kernel

def f_X8_settle (x1 : Int32) (s_found_dugMarshes : Int32) (s_behind : Nat → Int64) (s_found_weights : Nat → Int64) : Option ((Int32) × (Nat → Int64)) :=
  plt (va_cpy s_behind s_found_weights (0 : Int32).toNatClampNeg (0 : Int32).toNatClampNeg (5 : Int32).toNatClampNeg : Nat → Int64) (fun f_1 => (
  plt ((s_found_dugMarshes ||| ((1 : Int32) <<< (x1 &&& 31))) : Int32) (fun found_dugMarshes_2 => (
  some (found_dugMarshes_2, f_1)))))

set_option maxRecDepth 100000 in
set_option maxHeartbeats 4000000 in
theorem ct_X8_settle (l : Launch) (D : va_G) (cA : Nat → ClassId) (x1 : Int32) (a0 : Nat) (q_found : Nat) (q_behind : Nat) (q_found_weights : Nat) (q_chances : Nat) (q_found_books : Nat) (q_found_sheets : Nat) (q_found_known : Nat) (s_found_dugMarshes : Int32) (s_found_kept : Int32) (s_behind : Nat → Int64) (s_found_weights : Nat → Int64) (o_found_dugMarshes : Int32) (o_found_weights : Nat → Int64) (hf : f_X8_settle x1 s_found_dugMarshes s_behind s_found_weights = some (o_found_dugMarshes, o_found_weights)) : CT l yX8_settle wsX8_settle rm_X8_settle D cA [.ref a0, .int x1] (w_X8_settle a0 q_found q_behind q_found_weights q_chances q_found_books q_found_sheets q_found_known cA s_found_dugMarshes s_found_kept s_behind s_found_weights) (w_X8_settle a0 q_found q_behind q_found_weights q_chances q_found_books q_found_sheets q_found_known cA o_found_dugMarshes s_found_kept s_behind o_found_weights) none := by
  refine CT.ofW (cc := cX8_settle) (maxL := 2) (ret := none) (by decide +kernel) rfl (Nat.le_of_ble_eq_true rfl) ?_
  intro p e s m below meth c A C0 hA hP hD ls hl
  have C0 : MX p s m [.ref a0, .int x1].toArray meth c cX8_settle 2 wsX8_settle RX8 none D cA := C0
  have hl : lv_has ls 2 [(0, .ref a0), (1, .int x1)] := hl
  obtain ⟨hx, hb, hml, hown, hts, hr, hlocks, hX⟩ := id C0
  have hK := hX.1
  have hN := hX.2
  have hS : va_S A s.heap s.heap [] := va_S.rf
  unfold f_X8_settle at hf
  refine lv_aload_n hx hb dX8_settle_0 rfl (lv_at hl 0 rfl) ?_
  refine va_get (D := D) (ci := 8) (v := .ref q_behind) (C := RX8) (T := TX8) (N := 3) hx hb hts hn_X8_settle_X8 hown hK hP 0 rfl rfl 2 (by decide) (hts _ hw_X8_settle_f16) (fun _ h9 => h9) rfl dX8_settle_1 ?_
  refine lv_iconst (v := (0 : Int32)) hx hb dX8_settle_4 (by decide) ?_
  refine lv_aload_n hx hb dX8_settle_5 rfl (lv_at hl 0 rfl) ?_
  refine va_get (D := D) (ci := 8) (v := .ref q_found) (C := RX8) (T := TX8) (N := 3) hx hb hts hn_X8_settle_X8 hown hK hP 0 rfl rfl 0 (by decide) (hts _ hw_X8_settle_f20) (fun _ h9 => h9) rfl dX8_settle_6 ?_
  refine va_getN (D := D) (ci := 2) (v := .ref q_found_weights) (C := RX2) (T := TX2) (N := 6) hx hb hts hn_X8_settle_X2 hown hK hP 1 rfl rfl 3 (by decide) (va_Nw.use rfl (hN _ nw_X8_34)) (fun _ h9 => h9) rfl dX8_settle_9 ?_
  refine lv_iconst (v := (0 : Int32)) hx hb dX8_settle_12 (by decide) ?_
  refine lv_iconst (v := (5 : Int32)) hx hb dX8_settle_13 (by decide) ?_
  refine va_copyl (ty := .long) hx hb (hml.trans hl.1.symm) hown (hts _ hw_X8_settle_m39) (hts _ hw_X8_settle_nac) (hts _ hw_X8_settle_sac) (hts _ hw_X8_settle_isys) hK hP hD hS 2 3 2 2 rfl rfl rfl rfl rfl (by decide) (by decide) (by decide) (by decide +kernel) (by decide +kernel) (fun _ _ => rfl) (Nat.le_of_ble_eq_true rfl) (Nat.le_of_ble_eq_true rfl) dX8_settle_14 (fun H locs hP hD hS => ?_)
  obtain ⟨f_1, ef_1⟩ : ∃ z : Nat → Int64, z = va_cpy s_behind s_found_weights (0 : Int32).toNatClampNeg (0 : Int32).toNatClampNeg (5 : Int32).toNatClampNeg := ⟨_, rfl⟩
  have hf := plt_e ef_1 hf
  have hP : va_P D vwCl (w_X8_settle a0 q_found q_behind q_found_weights q_chances q_found_books q_found_sheets q_found_known cA s_found_dugMarshes s_found_kept s_behind f_1) H := by rw [ef_1]; exact hP
  have hD : va_D A (w_X8_settle a0 q_found q_behind q_found_weights q_chances q_found_books q_found_sheets q_found_known cA s_found_dugMarshes s_found_kept s_behind f_1) := by rw [ef_1]; exact hD
  refine lv_aload_n hx hb dX8_settle_17 rfl (lv_at hl 0 rfl) ?_
  refine va_get (D := D) (ci := 8) (v := .ref q_found) (C := RX8) (T := TX8) (N := 3) hx hb hts hn_X8_settle_X8 hown hK hP 0 rfl rfl 0 (by decide) (hts _ hw_X8_settle_f20) (fun _ h9 => h9) rfl dX8_settle_18 ?_
  refine lv_dup hx hb dX8_settle_21 rfl ?_
  refine va_getN (D := D) (ci := 2) (v := .int s_found_dugMarshes) (C := RX2) (T := TX2) (N := 6) hx hb hts hn_X8_settle_X2 hown hK hP 1 rfl rfl 4 (by decide) (va_Nw.use rfl (hN _ nw_X8_45)) (fun _ h9 => h9) rfl dX8_settle_22 ?_
  refine lv_iconst (v := (1 : Int32)) hx hb dX8_settle_25 (by decide) ?_
  refine lv_iload_n hx hb dX8_settle_26 rfl (lv_at hl 1 rfl) ?_
  refine lv_ishl hx hb dX8_settle_27 ?_
  refine lv_ior hx hb dX8_settle_28 ?_
  refine lv_topi (fun found_dugMarshes_2 efound_dugMarshes_2 => ?_)
  have hf := plt_e efound_dugMarshes_2 hf
  refine va_putN (D := D) (ci := 2) (v := .int found_dugMarshes_2) (ty := .int) (C := RX2) (T := TX2) (N := 6) hx hb hts hn_X8_settle_X2 tyX2 tyX2_ok nmX2 hown hK hP hD hS 1 rfl rfl 4 (by decide) (va_Nw.use rfl (hN _ nw_X8_45)) (fun _ h9 => h9) rfl (by decide +kernel) rfl rfl (Nat.le_of_ble_eq_true rfl) dX8_settle_29 (fun H locs hP hD hS => ?_)
  have hP : va_P D vwCl (w_X8_settle a0 q_found q_behind q_found_weights q_chances q_found_books q_found_sheets q_found_known cA found_dugMarshes_2 s_found_kept s_behind f_1) H := hP
  have hD : va_D A (w_X8_settle a0 q_found q_behind q_found_weights q_chances q_found_books q_found_sheets q_found_known cA found_dugMarshes_2 s_found_kept s_behind f_1) := hD
  obtain ⟨rfl, rfl⟩ := pe2 hf
  exact m_vret hx hb hr hlocks hP hS dX8_settle_32

/-! ===== OrphanWave$Stories.greatestBehind(II)J ===== -/
abbrev rm_X8_greatestBehind : Room := { frames := 1, cells := 0, slots := 0, locals := 24 }
abbrev wx_X8_greatestBehind (a0 : Nat) (q_found : Nat) (q_found_weights : Nat) (q_chances : Nat) (q_behind : Nat) (q_found_books : Nat) (q_found_sheets : Nat) (q_found_known : Nat) (r_chances : Nat → Nat) (cA : Nat → ClassId) (s_found_dugMarshes : Int32) (s_found_kept : Int32) (s_found_weights : Nat → Int64) (s_chances : Nat → Nat → Int32) : va_W := [(a0, .inr (8, [.ref q_found, .ref q_chances, .ref q_behind])), (q_found, .inr (2, [.ref q_found_books, .ref q_found_sheets, .ref q_found_known, .ref q_found_weights, .int s_found_dugMarshes, .int s_found_kept])), (q_found_weights, .inl (cA 2, 5, .inr (.inl s_found_weights))), (q_chances, .inl (cA 5, 5, .inr (.inr (.inr (.inr (gro 5 r_chances))))))]
abbrev w_X8_greatestBehind (a0 : Nat) (q_found : Nat) (q_found_weights : Nat) (q_chances : Nat) (q_behind : Nat) (q_found_books : Nat) (q_found_sheets : Nat) (q_found_known : Nat) (r_chances : Nat → Nat) (cA : Nat → ClassId) (s_found_dugMarshes : Int32) (s_found_kept : Int32) (s_found_weights : Nat → Int64) (s_chances : Nat → Nat → Int32) : va_W := [(a0, .inr (8, [.ref q_found, .ref q_chances, .ref q_behind])), (q_found, .inr (2, [.ref q_found_books, .ref q_found_sheets, .ref q_found_known, .ref q_found_weights, .int s_found_dugMarshes, .int s_found_kept])), (q_found_weights, .inl (cA 2, 5, .inr (.inl s_found_weights))), (q_chances, .inl (cA 5, 5, .inr (.inr (.inr (.inr (gro 5 r_chances))))))] ++ grw 5 r_chances (cA 1) 6 s_chances
theorem hw_X8_greatestBehind_m49 : Cond.methodLink RX8 49 Lib.MathLoose.max_long.x ∈ wsX8_greatestBehind := by decide +kernel
theorem hw_X8_greatestBehind_smaxl : Cond.static Lib.MathLoose.max_long.x ∈ wsX8_greatestBehind := by decide +kernel
theorem hw_X8_greatestBehind_imath : Cond.initialized "java/lang/Math" ∈ wsX8_greatestBehind := by decide +kernel
theorem hw_X8_greatestBehind_kmaxl : Cond.code Lib.MathLoose.max_long.x Lib.MathLoose.max_long.code 4 (some .long) ∈ wsX8_greatestBehind := by decide +kernel

def f_X8_greatestBehind_5 (s_found_weights : Nat → Int64) (s_chances : Nat → Nat → Int32) (x1 : Int32) (x2 : Int32) : Nat → (Int64) → (Int32) → Option ((Int64))
  | 0, _, _ => none
  | k + 1, x3, x5 =>
    pbr ((5 : Int32) ≤ x5)
      (some (x3))
      (pcl (f_X8_weightBehind x5 x1 x2 s_found_weights s_chances) (fun r_2 => (
      plt ((if r_2 < x3 then x3 else r_2) : Int64) (fun x3_4 => (
      plt (x5 + (1 : Int32) : Int32) (fun x5_5 => (
      (f_X8_greatestBehind_5 s_found_weights s_chances x1 x2 k) x3_4 x5_5)))))))

set_option maxRecDepth 100000 in
set_option maxHeartbeats 4000000 in
theorem k_X8_greatestBehind_5 {p : Program} {l : Launch} {e : Env} {s : State} {m : MethodId} {args : Array Value} {below : List Frame} {meth : Method} {c : Code} {A : Nat → Prop} {D : va_G} {cA : Nat → ClassId} (C0 : MX p s m args meth c cX8_greatestBehind 6 wsX8_greatestBehind RX8 (some .long) D cA) (hA : ∀ q, s.heap.size ≤ q → A q) {a0 : Nat} {q_found : Nat} {q_found_weights : Nat} {q_chances : Nat} {q_behind : Nat} {q_found_books : Nat} {q_found_sheets : Nat} {q_found_known : Nat} {r_chances : Nat → Nat} {s_found_dugMarshes : Int32} {s_found_kept : Int32} {s_found_weights : Nat → Int64} {s_chances : Nat → Nat → Int32} {x1 : Int32} {x2 : Int32} {o_r : Int64} : ∀ (k : Nat) (x3 : Int64) (x5 : Int32), f_X8_greatestBehind_5 s_found_weights s_chances x1 x2 k x3 x5 = some o_r → ∀ (H : Heap) (locs : List Loc), va_P D vwCl (w_X8_greatestBehind a0 q_found q_found_weights q_chances q_behind q_found_books q_found_sheets q_found_known r_chances cA s_found_dugMarshes s_found_kept s_found_weights s_chances) H → va_D A (w_X8_greatestBehind a0 q_found q_found_weights q_chances q_behind q_found_books q_found_sheets q_found_known r_chances cA s_found_dugMarshes s_found_kept s_found_weights s_chances) → va_S A s.heap H locs → ∀ ls : Array Slot, lv_has ls 6 [(0, .ref a0), (1, .int x1), (2, .int x2), (3, .long x3), (5, .int x5)] → W p l e rm_X8_greatestBehind s m args below meth c H locs 0 0 (MQ below (CQ D (some (.long o_r)) (w_X8_greatestBehind a0 q_found q_found_weights q_chances q_behind q_found_books q_found_sheets q_found_known r_chances cA s_found_dugMarshes s_found_kept s_found_weights s_chances) A) args s 0 0 A) (F0 m 5 ls []) := by
  obtain ⟨hx, hb, hml, hown, hts, hr, hlocks, hX⟩ := C0
  have hK := hX.1
  have hN := hX.2
  intro k
  induction k with
  | zero =>
    intro x3 x5 hf
    cases hf
  | succ k ih =>
    intro x3 x5 hf H locs hP hD hS ls hl
    rw [f_X8_greatestBehind_5] at hf
    refine lv_iload hx hb dX8_greatestBehind_5 (lv_at hl 4 rfl) ?_
    refine lv_iconst (v := (5 : Int32)) hx hb dX8_greatestBehind_7 (by decide) ?_
    refine lv_icmp_ge (tgt := 30) hx hb dX8_greatestBehind_8 (by decide) (fun c_1 => ?_) (fun c_1 => ?_)
    · have hf := pbr_t c_1 hf
      refine lv_lload_n hx hb dX8_greatestBehind_30 rfl (lv_at hl 3 rfl) ?_
      obtain rfl := pe1 hf
      exact m_lret hx hb hr hlocks hP hS dX8_greatestBehind_31
    have hf := pbr_f c_1 hf
    refine lv_lload_n hx hb dX8_greatestBehind_11 rfl (lv_at hl 3 rfl) ?_
    refine lv_aload_n hx hb dX8_greatestBehind_12 rfl (lv_at hl 0 rfl) ?_
    refine lv_iload hx hb dX8_greatestBehind_13 (lv_at hl 4 rfl) ?_
    refine lv_iload_n hx hb dX8_greatestBehind_15 rfl (lv_at hl 1 rfl) ?_
    refine lv_iload_n hx hb dX8_greatestBehind_16 rfl (lv_at hl 2 rfl) ?_
    obtain ⟨r_2, hc_3, hf⟩ := pcl_e hf
    refine m_callV2 (As := [.int x5, .int x1, .int x2]) (rest := [.long x3]) ⟨hx, hb, hml, hown, hts⟩ hX (ct_X8_weightBehind l D cA x5 x1 x2 a0 q_found q_found_weights q_chances q_behind q_found_books q_found_sheets q_found_known r_chances s_found_dugMarshes s_found_kept s_found_weights s_chances r_2 hc_3) (cwV 3 hts gX8_greatestBehind_X8_weightBehind rfl rfl rfl (by decide +kernel) ⟨Nat.le_of_ble_eq_true rfl, Nat.le_of_ble_eq_true rfl⟩) hP hD hS hA [0, 1, 2, 3, 4, 5, 6, 7, 8] [] 9 (by decide) rfl rfl (WS' := (w_X8_greatestBehind a0 q_found q_found_weights q_chances q_behind q_found_books q_found_sheets q_found_known r_chances cA s_found_dugMarshes s_found_kept s_found_weights s_chances)) (WR := []) rfl rfl rfl rfl (by decide) (by decide) 0 8 rfl rfl rfl hl.1 rfl (st' := [.long r_2, .long x3]) rfl (Nat.le_of_ble_eq_true rfl) ⟨Nat.zero_le _, Nat.zero_le _⟩ dX8_greatestBehind_17 (fun H locs hP hD hS => ?_)
    refine va_mmax_long hx hb (hml.trans hl.1.symm) hown (hts _ hw_X8_greatestBehind_m49) (hts _ hw_X8_greatestBehind_smaxl) (hts _ hw_X8_greatestBehind_imath) (hts _ hw_X8_greatestBehind_kmaxl) (Nat.le_of_ble_eq_true rfl) (Nat.le_of_ble_eq_true rfl) (Nat.zero_le _) (Nat.zero_le _) dX8_greatestBehind_20 ?_
    refine lv_topl (fun x3_4 ex3_4 => ?_)
    have hf := plt_e ex3_4 hf
    refine lv_lstore_n (lv' := [(3, .long x3_4), (0, .ref a0), (1, .int x1), (2, .int x2), (5, .int x5)]) hx hb dX8_greatestBehind_23 rfl hl (by decide) rfl (fun ls hl => ?_)
    obtain ⟨x5_5, ex5_5⟩ : ∃ z : Int32, z = x5 + (1 : Int32) := ⟨_, rfl⟩
    have hf := plt_e ex5_5 hf
    refine lv_iinc (v := x5_5) (lv' := [(5, .int x5_5), (3, .long x3_4), (0, .ref a0), (1, .int x1), (2, .int x2)]) hx hb dX8_greatestBehind_24 hl (k := 4) rfl (by rw [ex5_5]; rfl) (by decide) rfl (fun ls hl => ?_)
    refine lv_goto (tgt := 5) hx hb dX8_greatestBehind_27 (by decide) ?_
    exact ih x3_4 x5_5 hf _ _ hP hD hS ls (lv_sub hl [2, 3, 4, 1, 0] rfl)

def f_X8_greatestBehind (x1 : Int32) (x2 : Int32) (s_found_weights : Nat → Int64) (s_chances : Nat → Nat → Int32) : Option ((Int64)) :=
  f_X8_greatestBehind_5 s_found_weights s_chances x1 x2 FU (0 : Int64) (0 : Int32)

set_option maxRecDepth 100000 in
set_option maxHeartbeats 4000000 in
theorem ct_X8_greatestBehind (l : Launch) (D : va_G) (cA : Nat → ClassId) (x1 : Int32) (x2 : Int32) (a0 : Nat) (q_found : Nat) (q_found_weights : Nat) (q_chances : Nat) (q_behind : Nat) (q_found_books : Nat) (q_found_sheets : Nat) (q_found_known : Nat) (r_chances : Nat → Nat) (s_found_dugMarshes : Int32) (s_found_kept : Int32) (s_found_weights : Nat → Int64) (s_chances : Nat → Nat → Int32) (o_r : Int64) (hf : f_X8_greatestBehind x1 x2 s_found_weights s_chances = some o_r) : CT l yX8_greatestBehind wsX8_greatestBehind rm_X8_greatestBehind D cA [.ref a0, .int x1, .int x2] (w_X8_greatestBehind a0 q_found q_found_weights q_chances q_behind q_found_books q_found_sheets q_found_known r_chances cA s_found_dugMarshes s_found_kept s_found_weights s_chances) (w_X8_greatestBehind a0 q_found q_found_weights q_chances q_behind q_found_books q_found_sheets q_found_known r_chances cA s_found_dugMarshes s_found_kept s_found_weights s_chances) (some (.long o_r)) := by
  refine CT.ofW (cc := cX8_greatestBehind) (maxL := 6) (ret := (some .long)) (by decide +kernel) rfl (Nat.le_of_ble_eq_true rfl) ?_
  intro p e s m below meth c A C0 hA hP hD ls hl
  have C0 : MX p s m [.ref a0, .int x1, .int x2].toArray meth c cX8_greatestBehind 6 wsX8_greatestBehind RX8 (some .long) D cA := C0
  have hl : lv_has ls 6 [(0, .ref a0), (1, .int x1), (2, .int x2)] := hl
  obtain ⟨hx, hb, hml, hown, hts, hr, hlocks, hX⟩ := id C0
  have hK := hX.1
  have hN := hX.2
  have hS : va_S A s.heap s.heap [] := va_S.rf
  unfold f_X8_greatestBehind at hf
  refine lv_lconst (v := (0 : Int64)) hx hb dX8_greatestBehind_0 (by decide) ?_
  refine lv_lstore_n (lv' := [(3, .long (0 : Int64)), (0, .ref a0), (1, .int x1), (2, .int x2)]) hx hb dX8_greatestBehind_1 rfl hl (by decide) rfl (fun ls hl => ?_)
  refine lv_iconst (v := (0 : Int32)) hx hb dX8_greatestBehind_2 (by decide) ?_
  refine lv_istore (lv' := [(5, .int (0 : Int32)), (3, .long (0 : Int64)), (0, .ref a0), (1, .int x1), (2, .int x2)]) hx hb dX8_greatestBehind_3 hl (by decide) rfl (fun ls hl => ?_)
  exact k_X8_greatestBehind_5 C0 hA FU (0 : Int64) (0 : Int32) hf _ _ hP hD hS ls (lv_sub hl [2, 3, 4, 1, 0] rfl)

/-! ===== OrphanWave$Stories.bestMarsh()I ===== -/
abbrev rm_X8_bestMarsh : Room := { frames := 2, cells := 0, slots := 0, locals := 49 }
abbrev wx_X8_bestMarsh (a0 : Nat) (q_found : Nat) (q_found_weights : Nat) (q_chances : Nat) (q_behind : Nat) (q_found_books : Nat) (q_found_sheets : Nat) (q_found_known : Nat) (r_chances : Nat → Nat) (cA : Nat → ClassId) (s_found_dugMarshes : Int32) (s_found_kept : Int32) (s_found_weights : Nat → Int64) (s_chances : Nat → Nat → Int32) : va_W := [(a0, .inr (8, [.ref q_found, .ref q_chances, .ref q_behind])), (q_found, .inr (2, [.ref q_found_books, .ref q_found_sheets, .ref q_found_known, .ref q_found_weights, .int s_found_dugMarshes, .int s_found_kept])), (q_found_weights, .inl (cA 2, 5, .inr (.inl s_found_weights))), (q_chances, .inl (cA 5, 5, .inr (.inr (.inr (.inr (gro 5 r_chances))))))]
abbrev w_X8_bestMarsh (a0 : Nat) (q_found : Nat) (q_found_weights : Nat) (q_chances : Nat) (q_behind : Nat) (q_found_books : Nat) (q_found_sheets : Nat) (q_found_known : Nat) (r_chances : Nat → Nat) (cA : Nat → ClassId) (s_found_dugMarshes : Int32) (s_found_kept : Int32) (s_found_weights : Nat → Int64) (s_chances : Nat → Nat → Int32) : va_W := [(a0, .inr (8, [.ref q_found, .ref q_chances, .ref q_behind])), (q_found, .inr (2, [.ref q_found_books, .ref q_found_sheets, .ref q_found_known, .ref q_found_weights, .int s_found_dugMarshes, .int s_found_kept])), (q_found_weights, .inl (cA 2, 5, .inr (.inl s_found_weights))), (q_chances, .inl (cA 5, 5, .inr (.inr (.inr (.inr (gro 5 r_chances))))))] ++ grw 5 r_chances (cA 1) 6 s_chances
theorem hn_X8_bestMarsh_X8 : ∀ w ∈ u_ws RX8 TX8 3, w ∈ wsX8_bestMarsh := by decide +kernel
theorem hw_X8_bestMarsh_c54 : Cond.constantLong RX8 54 (-1) ∈ wsX8_bestMarsh := by decide +kernel
theorem hw_X8_bestMarsh_f20 : Cond.fieldLink RX8 20 "OrphanWave$Stories" "found" "LOrphanWave$Findings;" ∈ wsX8_bestMarsh := by decide +kernel

def f_X8_bestMarsh_10 (s_found_dugMarshes : Int32) (s_found_weights : Nat → Int64) (s_chances : Nat → Nat → Int32) : Nat → (Int32) → (Int64) → (Int32) → Option ((Int32))
  | 0, _, _, _ => none
  | k + 1, x1, x2, x4 =>
    pbr ((6 : Int32) ≤ x4)
      (some (x1))
      (pcl (f_X2_isDug x4 s_found_dugMarshes) (fun r_2 => (
      pbr (r_2 = 0)
        (pcl (f_X8_greatestBehind x4 (1 : Int32) s_found_weights s_chances) (fun r_5 => (
        pcl (f_X8_greatestBehind x4 (0 : Int32) s_found_weights s_chances) (fun r_7 => (
        plt ((r_5 + r_7) : Int64) (fun x5_9 => (
        pbr ((lg_cmp x5_9 x2) ≤ 0)
          (plt (x4 + (1 : Int32) : Int32) (fun x4_11 => (
          (f_X8_bestMarsh_10 s_found_dugMarshes s_found_weights s_chances k) x1 x2 x4_11)))
          (plt (x4 + (1 : Int32) : Int32) (fun x4_12 => (
          (f_X8_bestMarsh_10 s_found_dugMarshes s_found_weights s_chances k) x4 x5_9 x4_12))))))))))
        (plt (x4 + (1 : Int32) : Int32) (fun x4_13 => (
        (f_X8_bestMarsh_10 s_found_dugMarshes s_found_weights s_chances k) x1 x2 x4_13))))))

set_option maxRecDepth 100000 in
set_option maxHeartbeats 4000000 in
theorem k_X8_bestMarsh_10 {p : Program} {l : Launch} {e : Env} {s : State} {m : MethodId} {args : Array Value} {below : List Frame} {meth : Method} {c : Code} {A : Nat → Prop} {D : va_G} {cA : Nat → ClassId} (C0 : MX p s m args meth c cX8_bestMarsh 7 wsX8_bestMarsh RX8 (some .int) D cA) (hA : ∀ q, s.heap.size ≤ q → A q) {a0 : Nat} {q_found : Nat} {q_found_weights : Nat} {q_chances : Nat} {q_behind : Nat} {q_found_books : Nat} {q_found_sheets : Nat} {q_found_known : Nat} {r_chances : Nat → Nat} {s_found_dugMarshes : Int32} {s_found_kept : Int32} {s_found_weights : Nat → Int64} {s_chances : Nat → Nat → Int32} {o_r : Int32} : ∀ (k : Nat) (x1 : Int32) (x2 : Int64) (x4 : Int32), f_X8_bestMarsh_10 s_found_dugMarshes s_found_weights s_chances k x1 x2 x4 = some o_r → ∀ (H : Heap) (locs : List Loc), va_P D vwCl (w_X8_bestMarsh a0 q_found q_found_weights q_chances q_behind q_found_books q_found_sheets q_found_known r_chances cA s_found_dugMarshes s_found_kept s_found_weights s_chances) H → va_D A (w_X8_bestMarsh a0 q_found q_found_weights q_chances q_behind q_found_books q_found_sheets q_found_known r_chances cA s_found_dugMarshes s_found_kept s_found_weights s_chances) → va_S A s.heap H locs → ∀ ls : Array Slot, lv_has ls 7 [(0, .ref a0), (1, .int x1), (2, .long x2), (4, .int x4)] → W p l e rm_X8_bestMarsh s m args below meth c H locs 0 0 (MQ below (CQ D (some (.int o_r)) (w_X8_bestMarsh a0 q_found q_found_weights q_chances q_behind q_found_books q_found_sheets q_found_known r_chances cA s_found_dugMarshes s_found_kept s_found_weights s_chances) A) args s 0 0 A) (F0 m 10 ls []) := by
  obtain ⟨hx, hb, hml, hown, hts, hr, hlocks, hX⟩ := C0
  have hK := hX.1
  have hN := hX.2
  intro k
  induction k with
  | zero =>
    intro x1 x2 x4 hf
    cases hf
  | succ k ih =>
    intro x1 x2 x4 hf H locs hP hD hS ls hl
    rw [f_X8_bestMarsh_10] at hf
    refine lv_iload hx hb dX8_bestMarsh_10 (lv_at hl 3 rfl) ?_
    refine lv_bipush (v := (6 : Int32)) hx hb dX8_bestMarsh_12 (by decide) ?_
    refine lv_icmp_ge (tgt := 68) hx hb dX8_bestMarsh_14 (by decide) (fun c_1 => ?_) (fun c_1 => ?_)
    · have hf := pbr_t c_1 hf
      refine lv_iload_n hx hb dX8_bestMarsh_68 rfl (lv_at hl 1 rfl) ?_
      obtain rfl := pe1 hf
      exact m_iret hx hb hr hlocks hP hS dX8_bestMarsh_69
    have hf := pbr_f c_1 hf
    refine lv_aload_n hx hb dX8_bestMarsh_17 rfl (lv_at hl 0 rfl) ?_
    refine va_get (D := D) (ci := 8) (v := .ref q_found) (C := RX8) (T := TX8) (N := 3) hx hb hts hn_X8_bestMarsh_X8 hown hK hP 0 rfl rfl 0 (by decide) (hts _ hw_X8_bestMarsh_f20) (fun _ h9 => h9) rfl dX8_bestMarsh_18 ?_
    refine lv_iload hx hb dX8_bestMarsh_21 (lv_at hl 3 rfl) ?_
    obtain ⟨r_2, hc_3, hf⟩ := pcl_e hf
    refine m_callV2 (As := [.int x4]) (rest := []) ⟨hx, hb, hml, hown, hts⟩ hX (ct_X2_isDug l D cA x4 q_found q_found_books q_found_sheets q_found_known q_found_weights s_found_dugMarshes s_found_kept r_2 hc_3) (cwV 1 hts gX8_bestMarsh_X2_isDug rfl rfl rfl (by decide +kernel) ⟨Nat.le_of_ble_eq_true rfl, Nat.le_of_ble_eq_true rfl⟩) hP hD hS hA [1] [0, 2, 3, 4, 5, 6, 7, 8] 9 (by decide) rfl rfl (WS' := (w_X8_bestMarsh a0 q_found q_found_weights q_chances q_behind q_found_books q_found_sheets q_found_known r_chances cA s_found_dugMarshes s_found_kept s_found_weights s_chances)) (WR := [(a0, .inr (8, [.ref q_found, .ref q_chances, .ref q_behind])), (q_found_weights, .inl (cA 2, 5, .inr (.inl s_found_weights))), (q_chances, .inl (cA 5, 5, .inr (.inr (.inr (.inr (gro 5 r_chances))))))] ++ grw 5 r_chances (cA 1) 6 s_chances) rfl rfl rfl rfl (by decide) (by decide) 1 2 rfl rfl rfl hl.1 rfl (st' := [.int r_2]) rfl (Nat.le_of_ble_eq_true rfl) ⟨Nat.zero_le _, Nat.zero_le _⟩ dX8_bestMarsh_23 (fun H locs hP hD hS => ?_)
    refine lv_if_eq (tgt := 32) hx hb dX8_bestMarsh_26 (by decide) (fun c_4 => ?_) (fun c_4 => ?_)
    · have hf := pbr_t c_4 hf
      refine lv_aload_n hx hb dX8_bestMarsh_32 rfl (lv_at hl 0 rfl) ?_
      refine lv_iload hx hb dX8_bestMarsh_33 (lv_at hl 3 rfl) ?_
      refine lv_iconst (v := (1 : Int32)) hx hb dX8_bestMarsh_35 (by decide) ?_
      obtain ⟨r_5, hc_6, hf⟩ := pcl_e hf
      refine m_callV2 (As := [.int x4, .int (1 : Int32)]) (rest := []) ⟨hx, hb, hml, hown, hts⟩ hX (ct_X8_greatestBehind l D cA x4 (1 : Int32) a0 q_found q_found_weights q_chances q_behind q_found_books q_found_sheets q_found_known r_chances s_found_dugMarshes s_found_kept s_found_weights s_chances r_5 hc_6) (cwV 2 hts gX8_bestMarsh_X8_greatestBehind rfl rfl rfl (by decide +kernel) ⟨Nat.le_of_ble_eq_true rfl, Nat.le_of_ble_eq_true rfl⟩) hP hD hS hA [0, 1, 2, 3, 4, 5, 6, 7, 8] [] 9 (by decide) rfl rfl (WS' := (w_X8_bestMarsh a0 q_found q_found_weights q_chances q_behind q_found_books q_found_sheets q_found_known r_chances cA s_found_dugMarshes s_found_kept s_found_weights s_chances)) (WR := []) rfl rfl rfl rfl (by decide) (by decide) 0 8 rfl rfl rfl hl.1 rfl (st' := [.long r_5]) rfl (Nat.le_of_ble_eq_true rfl) ⟨Nat.zero_le _, Nat.zero_le _⟩ dX8_bestMarsh_36 (fun H locs hP hD hS => ?_)
      refine lv_aload_n hx hb dX8_bestMarsh_39 rfl (lv_at hl 0 rfl) ?_
      refine lv_iload hx hb dX8_bestMarsh_40 (lv_at hl 3 rfl) ?_
      refine lv_iconst (v := (0 : Int32)) hx hb dX8_bestMarsh_42 (by decide) ?_
      obtain ⟨r_7, hc_8, hf⟩ := pcl_e hf
      refine m_callV2 (As := [.int x4, .int (0 : Int32)]) (rest := [.long r_5]) ⟨hx, hb, hml, hown, hts⟩ hX (ct_X8_greatestBehind l D cA x4 (0 : Int32) a0 q_found q_found_weights q_chances q_behind q_found_books q_found_sheets q_found_known r_chances s_found_dugMarshes s_found_kept s_found_weights s_chances r_7 hc_8) (cwV 2 hts gX8_bestMarsh_X8_greatestBehind rfl rfl rfl (by decide +kernel) ⟨Nat.le_of_ble_eq_true rfl, Nat.le_of_ble_eq_true rfl⟩) hP hD hS hA [0, 1, 2, 3, 4, 5, 6, 7, 8] [] 9 (by decide) rfl rfl (WS' := (w_X8_bestMarsh a0 q_found q_found_weights q_chances q_behind q_found_books q_found_sheets q_found_known r_chances cA s_found_dugMarshes s_found_kept s_found_weights s_chances)) (WR := []) rfl rfl rfl rfl (by decide) (by decide) 0 8 rfl rfl rfl hl.1 rfl (st' := [.long r_7, .long r_5]) rfl (Nat.le_of_ble_eq_true rfl) ⟨Nat.zero_le _, Nat.zero_le _⟩ dX8_bestMarsh_43 (fun H locs hP hD hS => ?_)
      refine lv_ladd hx hb dX8_bestMarsh_46 ?_
      refine lv_topl (fun x5_9 ex5_9 => ?_)
      have hf := plt_e ex5_9 hf
      refine lv_lstore (lv' := [(5, .long x5_9), (0, .ref a0), (1, .int x1), (2, .long x2), (4, .int x4)]) hx hb dX8_bestMarsh_47 hl (by decide) rfl (fun ls hl => ?_)
      refine lv_lload hx hb dX8_bestMarsh_49 (lv_at hl 0 rfl) ?_
      refine lv_lload_n hx hb dX8_bestMarsh_51 rfl (lv_at hl 3 rfl) ?_
      refine W.lcmp hx hb dX8_bestMarsh_52 ?_
      refine lv_if_le (tgt := 62) hx hb dX8_bestMarsh_53 (by decide) (fun c_10 => ?_) (fun c_10 => ?_)
      · have hf := pbr_t c_10 hf
        obtain ⟨x4_11, ex4_11⟩ : ∃ z : Int32, z = x4 + (1 : Int32) := ⟨_, rfl⟩
        have hf := plt_e ex4_11 hf
        refine lv_iinc (v := x4_11) (lv' := [(4, .int x4_11), (5, .long x5_9), (0, .ref a0), (1, .int x1), (2, .long x2)]) hx hb dX8_bestMarsh_62 hl (k := 4) rfl (by rw [ex4_11]; rfl) (by decide) rfl (fun ls hl => ?_)
        refine lv_goto (tgt := 10) hx hb dX8_bestMarsh_65 (by decide) ?_
        exact ih x1 x2 x4_11 hf _ _ hP hD hS ls (lv_sub hl [2, 3, 4, 0] rfl)
      have hf := pbr_f c_10 hf
      refine lv_lload hx hb dX8_bestMarsh_56 (lv_at hl 0 rfl) ?_
      refine lv_lstore_n (lv' := [(2, .long x5_9), (5, .long x5_9), (0, .ref a0), (1, .int x1), (4, .int x4)]) hx hb dX8_bestMarsh_58 rfl hl (by decide) rfl (fun ls hl => ?_)
      refine lv_iload hx hb dX8_bestMarsh_59 (lv_at hl 4 rfl) ?_
      refine lv_istore_n (lv' := [(1, .int x4), (2, .long x5_9), (5, .long x5_9), (0, .ref a0), (4, .int x4)]) hx hb dX8_bestMarsh_61 rfl hl (by decide) rfl (fun ls hl => ?_)
      obtain ⟨x4_12, ex4_12⟩ : ∃ z : Int32, z = x4 + (1 : Int32) := ⟨_, rfl⟩
      have hf := plt_e ex4_12 hf
      refine lv_iinc (v := x4_12) (lv' := [(4, .int x4_12), (1, .int x4), (2, .long x5_9), (5, .long x5_9), (0, .ref a0)]) hx hb dX8_bestMarsh_62 hl (k := 4) rfl (by rw [ex4_12]; rfl) (by decide) rfl (fun ls hl => ?_)
      refine lv_goto (tgt := 10) hx hb dX8_bestMarsh_65 (by decide) ?_
      exact ih x4 x5_9 x4_12 hf _ _ hP hD hS ls (lv_sub hl [4, 1, 2, 0] rfl)
    have hf := pbr_f c_4 hf
    refine lv_goto (tgt := 62) hx hb dX8_bestMarsh_29 (by decide) ?_
    obtain ⟨x4_13, ex4_13⟩ : ∃ z : Int32, z = x4 + (1 : Int32) := ⟨_, rfl⟩
    have hf := plt_e ex4_13 hf
    refine lv_iinc (v := x4_13) (lv' := [(4, .int x4_13), (0, .ref a0), (1, .int x1), (2, .long x2)]) hx hb dX8_bestMarsh_62 hl (k := 3) rfl (by rw [ex4_13]; rfl) (by decide) rfl (fun ls hl => ?_)
    refine lv_goto (tgt := 10) hx hb dX8_bestMarsh_65 (by decide) ?_
    exact ih x1 x2 x4_13 hf _ _ hP hD hS ls (lv_sub hl [1, 2, 3, 0] rfl)

def f_X8_bestMarsh (s_found_dugMarshes : Int32) (s_found_weights : Nat → Int64) (s_chances : Nat → Nat → Int32) : Option ((Int32)) :=
  f_X8_bestMarsh_10 s_found_dugMarshes s_found_weights s_chances FU (-9 : Int32) (-1 : Int64) (0 : Int32)

set_option maxRecDepth 100000 in
set_option maxHeartbeats 4000000 in
theorem ct_X8_bestMarsh (l : Launch) (D : va_G) (cA : Nat → ClassId) (a0 : Nat) (q_found : Nat) (q_found_weights : Nat) (q_chances : Nat) (q_behind : Nat) (q_found_books : Nat) (q_found_sheets : Nat) (q_found_known : Nat) (r_chances : Nat → Nat) (s_found_dugMarshes : Int32) (s_found_kept : Int32) (s_found_weights : Nat → Int64) (s_chances : Nat → Nat → Int32) (o_r : Int32) (hf : f_X8_bestMarsh s_found_dugMarshes s_found_weights s_chances = some o_r) : CT l yX8_bestMarsh wsX8_bestMarsh rm_X8_bestMarsh D cA [.ref a0] (w_X8_bestMarsh a0 q_found q_found_weights q_chances q_behind q_found_books q_found_sheets q_found_known r_chances cA s_found_dugMarshes s_found_kept s_found_weights s_chances) (w_X8_bestMarsh a0 q_found q_found_weights q_chances q_behind q_found_books q_found_sheets q_found_known r_chances cA s_found_dugMarshes s_found_kept s_found_weights s_chances) (some (.int o_r)) := by
  refine CT.ofW (cc := cX8_bestMarsh) (maxL := 7) (ret := (some .int)) (by decide +kernel) rfl (Nat.le_of_ble_eq_true rfl) ?_
  intro p e s m below meth c A C0 hA hP hD ls hl
  have C0 : MX p s m [.ref a0].toArray meth c cX8_bestMarsh 7 wsX8_bestMarsh RX8 (some .int) D cA := C0
  have hl : lv_has ls 7 [(0, .ref a0)] := hl
  obtain ⟨hx, hb, hml, hown, hts, hr, hlocks, hX⟩ := id C0
  have hK := hX.1
  have hN := hX.2
  have hS : va_S A s.heap s.heap [] := va_S.rf
  unfold f_X8_bestMarsh at hf
  refine lv_bipush (v := (-9 : Int32)) hx hb dX8_bestMarsh_0 (by decide) ?_
  refine lv_istore_n (lv' := [(1, .int (-9 : Int32)), (0, .ref a0)]) hx hb dX8_bestMarsh_2 rfl hl (by decide) rfl (fun ls hl => ?_)
  refine lv_ldc2 (v := (-1 : Int64)) hx hb hown (hts _ hw_X8_bestMarsh_c54) dX8_bestMarsh_3 ?_
  refine lv_lstore_n (lv' := [(2, .long (-1 : Int64)), (1, .int (-9 : Int32)), (0, .ref a0)]) hx hb dX8_bestMarsh_6 rfl hl (by decide) rfl (fun ls hl => ?_)
  refine lv_iconst (v := (0 : Int32)) hx hb dX8_bestMarsh_7 (by decide) ?_
  refine lv_istore (lv' := [(4, .int (0 : Int32)), (2, .long (-1 : Int64)), (1, .int (-9 : Int32)), (0, .ref a0)]) hx hb dX8_bestMarsh_8 hl (by decide) rfl (fun ls hl => ?_)
  exact k_X8_bestMarsh_10 C0 hA FU (-9 : Int32) (-1 : Int64) (0 : Int32) hf _ _ hP hD hS ls (lv_sub hl [3, 2, 1, 0] rfl)
