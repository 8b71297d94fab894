/-! ===== OrphanWave.type(JI)I ===== -/
abbrev rm_X11_type : Room := { frames := 1, cells := 0, slots := 0, locals := 22 }
abbrev w_X11_type (a0 : Nat) (q_text : Nat) (q_text_bytes : Nat) (q_ocean : Nat) (q_trees : Nat) (q_found : Nat) (q_images : Nat) (q_search : Nat) (q_stories : Nat) (q_signs : Nat) (q_calendar : Nat) (q_draft : Nat) (cA : Nat → ClassId) (s_yearOfNow : Int32) (s_text_length : Int32) (s_text_bytes : Nat → Int32) : va_W := [(a0, .inr (11, [.ref q_text, .ref q_ocean, .ref q_trees, .ref q_found, .ref q_images, .ref q_search, .ref q_stories, .ref q_signs, .ref q_calendar, .ref q_draft, .int s_yearOfNow])), (q_text, .inr (9, [.ref q_text_bytes, .int s_text_length])), (q_text_bytes, .inl (cA 0, 400, .inl s_text_bytes))]
theorem hn_X11_type_X11 : ∀ w ∈ u_ws RX11 TX11 11, w ∈ wsX11_type := by decide +kernel
theorem hn_X11_type_X9 : ∀ w ∈ u_ws RX9 TX9 2, w ∈ wsX11_type := by decide +kernel
theorem hw_X11_type_f12 : Cond.fieldLink RX11 12 "OrphanWave" "text" "LOrphanWave$Text;" ∈ wsX11_type := by decide +kernel

def f_X11_type_35 (x1 : Int64) (x3 : Int32) : Nat → (Int32) → (Int32) → (Nat → Int32) → Option ((Int32) × (Int32) × (Nat → Int32))
  | 0, _, _, _ => none
  | k + 1, x4, s_text_length, s_text_bytes =>
    pbr (x4 < 0)
      (some (s_text_length, s_text_length, s_text_bytes))
      (pcl (f_X9_append (x1.toUInt64 >>> (((8 : Int32) * x4).toInt64.toUInt64 &&& Int64.toUInt64 63)).toInt64.toInt32.toInt8.toInt32 s_text_length s_text_bytes) (fun (length_2, bytes_3) => (
      plt (x4 + (-1 : Int32) : Int32) (fun x4_5 => (
      (f_X11_type_35 x1 x3 k) x4_5 length_2 bytes_3)))))

set_option maxRecDepth 100000 in
set_option maxHeartbeats 4000000 in
theorem k_X11_type_35 {p : Program} {l : Launch} {e : Env} {s : State} {m : MethodId} {args : Array Value} {below : List Frame} {meth : Method} {c : Code} {A : Nat → Prop} {D : va_G} {cA : Nat → ClassId} (C0 : MX p s m args meth c cX11_type 5 wsX11_type RX11 (some .int) D cA) (hA : ∀ q, s.heap.size ≤ q → A q) {a0 : Nat} {q_text : Nat} {q_text_bytes : Nat} {q_ocean : Nat} {q_trees : Nat} {q_found : Nat} {q_images : Nat} {q_search : Nat} {q_stories : Nat} {q_signs : Nat} {q_calendar : Nat} {q_draft : Nat} {s_yearOfNow : Int32} {x1 : Int64} {x3 : Int32} {o_r : Int32} {o_text_length : Int32} {o_text_bytes : Nat → Int32} : ∀ (k : Nat) (x4 : Int32) (s_text_length : Int32) (s_text_bytes : Nat → Int32), f_X11_type_35 x1 x3 k x4 s_text_length s_text_bytes = some (o_r, o_text_length, o_text_bytes) → ∀ (H : Heap) (locs : List Loc), va_P D vwCl (w_X11_type a0 q_text q_text_bytes q_ocean q_trees q_found q_images q_search q_stories q_signs q_calendar q_draft cA s_yearOfNow s_text_length s_text_bytes) H → va_D A (w_X11_type a0 q_text q_text_bytes q_ocean q_trees q_found q_images q_search q_stories q_signs q_calendar q_draft cA s_yearOfNow s_text_length s_text_bytes) → va_S A s.heap H locs → ∀ ls : Array Slot, lv_has ls 5 [(0, .ref a0), (1, .long x1), (4, .int x4)] → W p l e rm_X11_type s m args below meth c H locs 0 0 (MQ below (CQ D (some (.int o_r)) (w_X11_type a0 q_text q_text_bytes q_ocean q_trees q_found q_images q_search q_stories q_signs q_calendar q_draft cA s_yearOfNow o_text_length o_text_bytes) A) args s 0 0 A) (F0 m 35 ls []) := by
  obtain ⟨hx, hb, hml, hown, hts, hr, hlocks, hX⟩ := C0
  have hK := hX.1
  have hN := hX.2
  intro k
  induction k with
  | zero =>
    intro x4 s_text_length s_text_bytes hf
    cases hf
  | succ k ih =>
    intro x4 s_text_length s_text_bytes hf H locs hP hD hS ls hl
    rw [f_X11_type_35] at hf
    refine lv_iload hx hb dX11_type_35 (lv_at hl 2 rfl) ?_
    refine lv_if_lt (tgt := 62) hx hb dX11_type_37 (by decide) (fun c_1 => ?_) (fun c_1 => ?_)
    · have hf := pbr_t c_1 hf
      refine lv_aload_n hx hb dX11_type_62 rfl (lv_at hl 0 rfl) ?_
      refine va_get (D := D) (ci := 11) (v := .ref q_text) (C := RX11) (T := TX11) (N := 11) hx hb hts hn_X11_type_X11 hown hK hP 0 rfl rfl 0 (by decide) (hts _ hw_X11_type_f12) (fun _ h9 => h9) rfl dX11_type_63 ?_
      refine va_getN (D := D) (ci := 9) (v := .int s_text_length) (C := RX9) (T := TX9) (N := 2) hx hb hts hn_X11_type_X9 hown hK hP 1 rfl rfl 1 (by decide) (va_Nw.use rfl (hN _ nw_X11_88)) (fun _ h9 => h9) rfl dX11_type_66 ?_
      cases hf
      exact m_iret hx hb hr hlocks hP hS dX11_type_69
    have hf := pbr_f c_1 hf
    refine lv_aload_n hx hb dX11_type_40 rfl (lv_at hl 0 rfl) ?_
    refine va_get (D := D) (ci := 11) (v := .ref q_text) (C := RX11) (T := TX11) (N := 11) hx hb hts hn_X11_type_X11 hown hK hP 0 rfl rfl 0 (by decide) (hts _ hw_X11_type_f12) (fun _ h9 => h9) rfl dX11_type_41 ?_
    refine lv_lload_n hx hb dX11_type_44 rfl (lv_at hl 1 rfl) ?_
    refine lv_bipush (v := (8 : Int32)) hx hb dX11_type_45 (by decide) ?_
    refine lv_iload hx hb dX11_type_47 (lv_at hl 2 rfl) ?_
    refine lv_imul hx hb dX11_type_49 ?_
    refine lv_lushr hx hb dX11_type_50 rfl ?_
    refine lv_l2i hx hb dX11_type_51 rfl ?_
    refine lv_i2b hx hb dX11_type_52 rfl ?_
    obtain ⟨⟨length_2, bytes_3⟩, hc_4, hf⟩ := pcl_e hf
    refine m_callV (As := [.int (x1.toUInt64 >>> (((8 : Int32) * x4).toInt64.toUInt64 &&& Int64.toUInt64 63)).toInt64.toInt32.toInt8.toInt32]) (rest := []) ⟨hx, hb, hml, hown, hts⟩ hX (ct_X9_append l D cA (x1.toUInt64 >>> (((8 : Int32) * x4).toInt64.toUInt64 &&& Int64.toUInt64 63)).toInt64.toInt32.toInt8.toInt32 q_text q_text_bytes s_text_length s_text_bytes length_2 bytes_3 hc_4) (cwV 1 hts gX11_type_X9_append rfl rfl rfl (by decide +kernel) ⟨Nat.le_of_ble_eq_true rfl, Nat.le_of_ble_eq_true rfl⟩) hP hD hS hA [1, 2] (by decide) rfl rfl (WS' := (w_X11_type a0 q_text q_text_bytes q_ocean q_trees q_found q_images q_search q_stories q_signs q_calendar q_draft cA s_yearOfNow length_2 bytes_3)) rfl 1 9 rfl rfl rfl hl.1 rfl (st' := []) rfl (Nat.le_of_ble_eq_true rfl) ⟨Nat.zero_le _, Nat.zero_le _⟩ dX11_type_53 (fun H locs hP hD hS => ?_)
    obtain ⟨x4_5, ex4_5⟩ : ∃ z : Int32, z = x4 + (-1 : Int32) := ⟨_, rfl⟩
    have hf := plt_e ex4_5 hf
    refine lv_iinc (v := x4_5) (lv' := [(4, .int x4_5), (0, .ref a0), (1, .long x1)]) hx hb dX11_type_56 hl (k := 2) rfl (by rw [ex4_5]; rfl) (by decide) rfl (fun ls hl => ?_)
    refine lv_goto (tgt := 35) hx hb dX11_type_59 (by decide) ?_
    exact ih x4_5 length_2 bytes_3 hf _ _ hP hD hS ls (lv_sub hl [1, 2, 0] rfl)

def f_X11_type (x1 : Int64) (x3 : Int32) (s_text_length : Int32) (s_text_bytes : Nat → Int32) : Option ((Int32) × (Int32) × (Nat → Int32)) :=
  pcl (f_X11_within x3 (1 : Int32) (8 : Int32)) (fun r_1 => (
  pbr (r_1 = 0)
    (some ((-1 : Int32), s_text_length, s_text_bytes))
    (pbr (x3 ≤ ((400 : Int32) - s_text_length))
      (plt ((x3 - (1 : Int32)) : Int32) (fun x4_5 => (
      f_X11_type_35 x1 x3 FU x4_5 s_text_length s_text_bytes)))
      (some ((-3 : Int32), s_text_length, s_text_bytes)))))

set_option maxRecDepth 100000 in
set_option maxHeartbeats 4000000 in
theorem ct_X11_type (l : Launch) (D : va_G) (cA : Nat → ClassId) (x1 : Int64) (x3 : Int32) (a0 : Nat) (q_text : Nat) (q_text_bytes : Nat) (q_ocean : Nat) (q_trees : Nat) (q_found : Nat) (q_images : Nat) (q_search : Nat) (q_stories : Nat) (q_signs : Nat) (q_calendar : Nat) (q_draft : Nat) (s_yearOfNow : Int32) (s_text_length : Int32) (s_text_bytes : Nat → Int32) (o_r : Int32) (o_text_length : Int32) (o_text_bytes : Nat → Int32) (hf : f_X11_type x1 x3 s_text_length s_text_bytes = some (o_r, o_text_length, o_text_bytes)) : CT l yX11_type wsX11_type rm_X11_type D cA [.ref a0, .long x1, .int x3] (w_X11_type a0 q_text q_text_bytes q_ocean q_trees q_found q_images q_search q_stories q_signs q_calendar q_draft cA s_yearOfNow s_text_length s_text_bytes) (w_X11_type a0 q_text q_text_bytes q_ocean q_trees q_found q_images q_search q_stories q_signs q_calendar q_draft cA s_yearOfNow o_text_length o_text_bytes) (some (.int o_r)) := by
  refine CT.ofW (cc := cX11_type) (maxL := 5) (ret := (some .int)) (by decide +kernel) rfl (Nat.le_of_ble_eq_true rfl) ?_
  intro p e s m below meth c A C0 hA hP hD ls hl
  have C0 : MX p s m [.ref a0, .long x1, .int x3].toArray meth c cX11_type 5 wsX11_type RX11 (some .int) D cA := C0
  have hl : lv_has ls 5 [(0, .ref a0), (1, .long x1), (3, .int x3)] := hl
  obtain ⟨hx, hb, hml, hown, hts, hr, hlocks, hX⟩ := id C0
  have hK := hX.1
  have hN := hX.2
  have hS : va_S A s.heap s.heap [] := va_S.rf
  unfold f_X11_type at hf
  refine lv_iload_n hx hb dX11_type_0 rfl (lv_at hl 2 rfl) ?_
  refine lv_iconst (v := (1 : Int32)) hx hb dX11_type_1 (by decide) ?_
  refine lv_bipush (v := (8 : Int32)) hx hb dX11_type_2 (by decide) ?_
  obtain ⟨r_1, hc_2, hf⟩ := pcl_e hf
  refine m_callS (As := [.int x3, .int (1 : Int32), .int (8 : Int32)]) (rest := []) ⟨hx, hb, hml, hown, hts⟩ hX (ct_X11_within l D cA x3 (1 : Int32) (8 : Int32) r_1 hc_2) (va_cwS 3 hts gX11_type_X11_within rfl rfl rfl (by decide +kernel) ⟨Nat.le_of_ble_eq_true rfl, Nat.le_of_ble_eq_true rfl⟩) hP hD hS hA [] (by decide) rfl rfl (WS' := (w_X11_type a0 q_text q_text_bytes q_ocean q_trees q_found q_images q_search q_stories q_signs q_calendar q_draft cA s_yearOfNow s_text_length s_text_bytes)) rfl rfl hl.1 rfl (st' := [.int r_1]) rfl (Nat.le_of_ble_eq_true rfl) ⟨Nat.zero_le _, Nat.zero_le _⟩ dX11_type_4 (fun H locs hP hD hS => ?_)
  refine lv_if_ne (tgt := 12) hx hb dX11_type_7 (by decide) (fun c_3 => ?_) (fun c_3 => ?_)
  · have hf := pbr_f c_3 hf
    refine lv_iload_n hx hb dX11_type_12 rfl (lv_at hl 2 rfl) ?_
    refine lv_sipush (v := (400 : Int32)) hx hb dX11_type_13 (by decide) ?_
    refine lv_aload_n hx hb dX11_type_16 rfl (lv_at hl 0 rfl) ?_
    refine va_get (D := D) (ci := 11) (v := .ref q_text) (C := RX11) (T := TX11) (N := 11) hx hb hts hn_X11_type_X11 hown hK hP 0 rfl rfl 0 (by decide) (hts _ hw_X11_type_f12) (fun _ h9 => h9) rfl dX11_type_17 ?_
    refine va_getN (D := D) (ci := 9) (v := .int s_text_length) (C := RX9) (T := TX9) (N := 2) hx hb hts hn_X11_type_X9 hown hK hP 1 rfl rfl 1 (by decide) (va_Nw.use rfl (hN _ nw_X11_88)) (fun _ h9 => h9) rfl dX11_type_20 ?_
    refine lv_isub hx hb dX11_type_23 ?_
    refine lv_icmp_le (tgt := 30) hx hb dX11_type_24 (by decide) (fun c_4 => ?_) (fun c_4 => ?_)
    · have hf := pbr_t c_4 hf
      refine lv_iload_n hx hb dX11_type_30 rfl (lv_at hl 2 rfl) ?_
      refine lv_iconst (v := (1 : Int32)) hx hb dX11_type_31 (by decide) ?_
      refine lv_isub hx hb dX11_type_32 ?_
      refine lv_topi (fun x4_5 ex4_5 => ?_)
      have hf := plt_e ex4_5 hf
      refine lv_istore (lv' := [(4, .int x4_5), (0, .ref a0), (1, .long x1), (3, .int x3)]) hx hb dX11_type_33 hl (by decide) rfl (fun ls hl => ?_)
      exact k_X11_type_35 C0 hA FU x4_5 s_text_length s_text_bytes hf _ _ hP hD hS ls (lv_sub hl [1, 2, 0] rfl)
    have hf := pbr_f c_4 hf
    refine lv_bipush (v := (-3 : Int32)) hx hb dX11_type_27 (by decide) ?_
    cases hf
    exact m_iret hx hb hr hlocks hP hS dX11_type_29
  have hf := pbr_t c_3 hf
  refine lv_iconst (v := (-1 : Int32)) hx hb dX11_type_10 (by decide) ?_
  cases hf
  exact m_iret hx hb hr hlocks hP hS dX11_type_11

/-! ===== OrphanWave.clear()I ===== -/
abbrev rm_X11_clear : Room := { frames := 1, cells := 0, slots := 0, locals := 21 }
abbrev w_X11_clear (a0 : Nat) (q_text : Nat) (q_ocean : Nat) (q_trees : Nat) (q_found : Nat) (q_images : Nat) (q_search : Nat) (q_stories : Nat) (q_signs : Nat) (q_calendar : Nat) (q_draft : Nat) (q_text_bytes : Nat) (cA : Nat → ClassId) (s_yearOfNow : Int32) (s_text_length : Int32) : va_W := [(a0, .inr (11, [.ref q_text, .ref q_ocean, .ref q_trees, .ref q_found, .ref q_images, .ref q_search, .ref q_stories, .ref q_signs, .ref q_calendar, .ref q_draft, .int s_yearOfNow])), (q_text, .inr (9, [.ref q_text_bytes, .int s_text_length]))]
theorem hn_X11_clear_X11 : ∀ w ∈ u_ws RX11 TX11 11, w ∈ wsX11_clear := by decide +kernel
theorem hw_X11_clear_f12 : Cond.fieldLink RX11 12 "OrphanWave" "text" "LOrphanWave$Text;" ∈ wsX11_clear := by decide +kernel

def f_X11_clear (s_text_length : Int32) : Option ((Int32) × (Int32)) :=
  pcl (f_X9_empty s_text_length) (fun (r_1, length_2) => (
  some (r_1, length_2)))

set_option maxRecDepth 100000 in
set_option maxHeartbeats 4000000 in
theorem ct_X11_clear (l : Launch) (D : va_G) (cA : Nat → ClassId) (a0 : Nat) (q_text : Nat) (q_ocean : Nat) (q_trees : Nat) (q_found : Nat) (q_images : Nat) (q_search : Nat) (q_stories : Nat) (q_signs : Nat) (q_calendar : Nat) (q_draft : Nat) (q_text_bytes : Nat) (s_yearOfNow : Int32) (s_text_length : Int32) (o_r : Int32) (o_text_length : Int32) (hf : f_X11_clear s_text_length = some (o_r, o_text_length)) : CT l yX11_clear wsX11_clear rm_X11_clear D cA [.ref a0] (w_X11_clear a0 q_text q_ocean q_trees q_found q_images q_search q_stories q_signs q_calendar q_draft q_text_bytes cA s_yearOfNow s_text_length) (w_X11_clear a0 q_text q_ocean q_trees q_found q_images q_search q_stories q_signs q_calendar q_draft q_text_bytes cA s_yearOfNow o_text_length) (some (.int o_r)) := by
  refine CT.ofW (cc := cX11_clear) (maxL := 1) (ret := (some .int)) (by decide +kernel) rfl (Nat.le_of_ble_eq_true rfl) ?_
  intro p e s m below meth c A C0 hA hP hD ls hl
  have C0 : MX p s m [.ref a0].toArray meth c cX11_clear 1 wsX11_clear RX11 (some .int) D cA := C0
  have hl : lv_has ls 1 [(0, .ref a0)] := hl
  obtain ⟨hx, hb, hml, hown, hts, hr, hlocks, hX⟩ := id C0
  have hK := hX.1
  have hN := hX.2
  have hS : va_S A s.heap s.heap [] := va_S.rf
  unfold f_X11_clear at hf
  refine lv_aload_n hx hb dX11_clear_0 rfl (lv_at hl 0 rfl) ?_
  refine va_get (D := D) (ci := 11) (v := .ref q_text) (C := RX11) (T := TX11) (N := 11) hx hb hts hn_X11_clear_X11 hown hK hP 0 rfl rfl 0 (by decide) (hts _ hw_X11_clear_f12) (fun _ h9 => h9) rfl dX11_clear_1 ?_
  obtain ⟨⟨r_1, length_2⟩, hc_3, hf⟩ := pcl_e hf
  refine m_callV (As := []) (rest := []) ⟨hx, hb, hml, hown, hts⟩ hX (ct_X9_empty l D cA q_text q_text_bytes s_text_length r_1 length_2 hc_3) (cwV 0 hts gX11_clear_X9_empty rfl rfl rfl (by decide +kernel) ⟨Nat.le_of_ble_eq_true rfl, Nat.le_of_ble_eq_true rfl⟩) hP hD hS hA [1] (by decide) rfl rfl (WS' := (w_X11_clear a0 q_text q_ocean q_trees q_found q_images q_search q_stories q_signs q_calendar q_draft q_text_bytes cA s_yearOfNow length_2)) rfl 1 9 rfl rfl rfl hl.1 rfl (st' := [.int r_1]) rfl (Nat.le_of_ble_eq_true rfl) ⟨Nat.zero_le _, Nat.zero_le _⟩ dX11_clear_4 (fun H locs hP hD hS => ?_)
  cases hf
  exact m_iret hx hb hr hlocks hP hS dX11_clear_7

/-! ===== OrphanWave.ocean()I ===== -/
abbrev rm_X11_ocean : Room := { frames := 4, cells := 0, slots := 0, locals := 89 }
abbrev w_X11_ocean (a0 : Nat) (q_ocean : Nat) (q_text : Nat) (q_text_bytes : Nat) (q_ocean_figures : Nat) (q_ocean_depths : Nat) (q_trees : Nat) (q_found : Nat) (q_images : Nat) (q_search : Nat) (q_stories : Nat) (q_signs : Nat) (q_calendar : Nat) (q_draft : Nat) (q_ocean_times : Nat) (cA : Nat → ClassId) (s_yearOfNow : Int32) (s_ocean_pace : Int32) (s_ocean_fade : Int32) (s_text_length : Int32) (s_text_bytes : Nat → Int32) (s_ocean_figures : Nat → Int32) (s_ocean_depths : Nat → Int32) : va_W := [(a0, .inr (11, [.ref q_text, .ref q_ocean, .ref q_trees, .ref q_found, .ref q_images, .ref q_search, .ref q_stories, .ref q_signs, .ref q_calendar, .ref q_draft, .int s_yearOfNow])), (q_ocean, .inr (4, [.ref q_ocean_depths, .ref q_ocean_figures, .ref q_ocean_times, .int s_ocean_pace, .int s_ocean_fade])), (q_text, .inr (9, [.ref q_text_bytes, .int s_text_length])), (q_text_bytes, .inl (cA 0, 400, .inl s_text_bytes)), (q_ocean_figures, .inl (cA 1, 48, .inl s_ocean_figures)), (q_ocean_depths, .inl (cA 1, 48, .inl s_ocean_depths))]
theorem hn_X11_ocean_X11 : ∀ w ∈ u_ws RX11 TX11 11, w ∈ wsX11_ocean := by decide +kernel
theorem hw_X11_ocean_f19 : Cond.fieldLink RX11 19 "OrphanWave" "ocean" "LOrphanWave$Ocean;" ∈ wsX11_ocean := by decide +kernel
theorem hw_X11_ocean_f12 : Cond.fieldLink RX11 12 "OrphanWave" "text" "LOrphanWave$Text;" ∈ wsX11_ocean := by decide +kernel

def f_X11_ocean (s_text_length : Int32) (s_text_bytes : Nat → Int32) (s_ocean_figures : Nat → Int32) (s_ocean_depths : Nat → Int32) : Option ((Int32) × (Int32) × (Nat → Int32) × (Nat → Int32)) :=
  pcl (f_X4_become s_text_length s_text_bytes s_ocean_figures s_ocean_depths) (fun (r_1, figures_2, depths_3) => (
  pbr (r_1 = (-1 : Int32))
    (pcl (f_X9_empty s_text_length) (fun (r_6, length_7) => (
    pcl (f_X4_seaCells depths_3) (fun r_9 => (
    some (r_9, length_7, figures_2, depths_3))))))
    (some (((-10 : Int32) - r_1), s_text_length, figures_2, depths_3))))

set_option maxRecDepth 100000 in
set_option maxHeartbeats 4000000 in
theorem ct_X11_ocean (l : Launch) (D : va_G) (cA : Nat → ClassId) (a0 : Nat) (q_ocean : Nat) (q_text : Nat) (q_text_bytes : Nat) (q_ocean_figures : Nat) (q_ocean_depths : Nat) (q_trees : Nat) (q_found : Nat) (q_images : Nat) (q_search : Nat) (q_stories : Nat) (q_signs : Nat) (q_calendar : Nat) (q_draft : Nat) (q_ocean_times : Nat) (s_yearOfNow : Int32) (s_ocean_pace : Int32) (s_ocean_fade : Int32) (s_text_length : Int32) (s_text_bytes : Nat → Int32) (s_ocean_figures : Nat → Int32) (s_ocean_depths : Nat → Int32) (o_r : Int32) (o_text_length : Int32) (o_ocean_figures : Nat → Int32) (o_ocean_depths : Nat → Int32) (hf : f_X11_ocean s_text_length s_text_bytes s_ocean_figures s_ocean_depths = some (o_r, o_text_length, o_ocean_figures, o_ocean_depths)) : CT l yX11_ocean wsX11_ocean rm_X11_ocean D cA [.ref a0] (w_X11_ocean a0 q_ocean q_text q_text_bytes q_ocean_figures q_ocean_depths q_trees q_found q_images q_search q_stories q_signs q_calendar q_draft q_ocean_times cA s_yearOfNow s_ocean_pace s_ocean_fade s_text_length s_text_bytes s_ocean_figures s_ocean_depths) (w_X11_ocean a0 q_ocean q_text q_text_bytes q_ocean_figures q_ocean_depths q_trees q_found q_images q_search q_stories q_signs q_calendar q_draft q_ocean_times cA s_yearOfNow s_ocean_pace s_ocean_fade o_text_length s_text_bytes o_ocean_figures o_ocean_depths) (some (.int o_r)) := by
  refine CT.ofW (cc := cX11_ocean) (maxL := 2) (ret := (some .int)) (by decide +kernel) rfl (Nat.le_of_ble_eq_true rfl) ?_
  intro p e s m below meth c A C0 hA hP hD ls hl
  have C0 : MX p s m [.ref a0].toArray meth c cX11_ocean 2 wsX11_ocean RX11 (some .int) D cA := C0
  have hl : lv_has ls 2 [(0, .ref a0)] := hl
  obtain ⟨hx, hb, hml, hown, hts, hr, hlocks, hX⟩ := id C0
  have hK := hX.1
  have hN := hX.2
  have hS : va_S A s.heap s.heap [] := va_S.rf
  unfold f_X11_ocean at hf
  refine lv_aload_n hx hb dX11_ocean_0 rfl (lv_at hl 0 rfl) ?_
  refine va_get (D := D) (ci := 11) (v := .ref q_ocean) (C := RX11) (T := TX11) (N := 11) hx hb hts hn_X11_ocean_X11 hown hK hP 0 rfl rfl 1 (by decide) (hts _ hw_X11_ocean_f19) (fun _ h9 => h9) rfl dX11_ocean_1 ?_
  refine lv_aload_n hx hb dX11_ocean_4 rfl (lv_at hl 0 rfl) ?_
  refine va_get (D := D) (ci := 11) (v := .ref q_text) (C := RX11) (T := TX11) (N := 11) hx hb hts hn_X11_ocean_X11 hown hK hP 0 rfl rfl 0 (by decide) (hts _ hw_X11_ocean_f12) (fun _ h9 => h9) rfl dX11_ocean_5 ?_
  obtain ⟨⟨r_1, figures_2, depths_3⟩, hc_4, hf⟩ := pcl_e hf
  refine m_callV (As := [.ref q_text]) (rest := []) ⟨hx, hb, hml, hown, hts⟩ hX (ct_X4_become l D cA q_ocean q_text q_text_bytes q_ocean_figures q_ocean_depths q_ocean_times s_ocean_pace s_ocean_fade s_text_length s_text_bytes s_ocean_figures s_ocean_depths r_1 figures_2 depths_3 hc_4) (cwV 1 hts gX11_ocean_X4_become rfl rfl rfl (by decide +kernel) ⟨Nat.le_of_ble_eq_true rfl, Nat.le_of_ble_eq_true rfl⟩) hP hD hS hA [1, 2, 3, 4, 5] (by decide) rfl rfl (WS' := (w_X11_ocean a0 q_ocean q_text q_text_bytes q_ocean_figures q_ocean_depths q_trees q_found q_images q_search q_stories q_signs q_calendar q_draft q_ocean_times cA s_yearOfNow s_ocean_pace s_ocean_fade s_text_length s_text_bytes figures_2 depths_3)) rfl 1 4 rfl rfl rfl hl.1 rfl (st' := [.int r_1]) rfl (Nat.le_of_ble_eq_true rfl) ⟨Nat.zero_le _, Nat.zero_le _⟩ dX11_ocean_8 (fun H locs hP hD hS => ?_)
  refine lv_istore_n (lv' := [(1, .int r_1), (0, .ref a0)]) hx hb dX11_ocean_11 rfl hl (by decide) rfl (fun ls hl => ?_)
  refine lv_iload_n hx hb dX11_ocean_12 rfl (lv_at hl 0 rfl) ?_
  refine lv_iconst (v := (-1 : Int32)) hx hb dX11_ocean_13 (by decide) ?_
  refine lv_icmp_eq (tgt := 22) hx hb dX11_ocean_14 (by decide) (fun c_5 => ?_) (fun c_5 => ?_)
  · have hf := pbr_t c_5 hf
    refine lv_aload_n hx hb dX11_ocean_22 rfl (lv_at hl 1 rfl) ?_
    refine va_get (D := D) (ci := 11) (v := .ref q_text) (C := RX11) (T := TX11) (N := 11) hx hb hts hn_X11_ocean_X11 hown hK hP 0 rfl rfl 0 (by decide) (hts _ hw_X11_ocean_f12) (fun _ h9 => h9) rfl dX11_ocean_23 ?_
    obtain ⟨⟨r_6, length_7⟩, hc_8, hf⟩ := pcl_e hf
    refine m_callV (As := []) (rest := []) ⟨hx, hb, hml, hown, hts⟩ hX (ct_X9_empty l D cA q_text q_text_bytes s_text_length r_6 length_7 hc_8) (cwV 0 hts gX11_ocean_X9_empty rfl rfl rfl (by decide +kernel) ⟨Nat.le_of_ble_eq_true rfl, Nat.le_of_ble_eq_true rfl⟩) hP hD hS hA [2] (by decide) rfl rfl (WS' := (w_X11_ocean a0 q_ocean q_text q_text_bytes q_ocean_figures q_ocean_depths q_trees q_found q_images q_search q_stories q_signs q_calendar q_draft q_ocean_times cA s_yearOfNow s_ocean_pace s_ocean_fade length_7 s_text_bytes figures_2 depths_3)) rfl 2 9 rfl rfl rfl hl.1 rfl (st' := [.int r_6]) rfl (Nat.le_of_ble_eq_true rfl) ⟨Nat.zero_le _, Nat.zero_le _⟩ dX11_ocean_26 (fun H locs hP hD hS => ?_)
    refine lv_pop hx hb dX11_ocean_29 rfl ?_
    refine lv_aload_n hx hb dX11_ocean_30 rfl (lv_at hl 1 rfl) ?_
    refine va_get (D := D) (ci := 11) (v := .ref q_ocean) (C := RX11) (T := TX11) (N := 11) hx hb hts hn_X11_ocean_X11 hown hK hP 0 rfl rfl 1 (by decide) (hts _ hw_X11_ocean_f19) (fun _ h9 => h9) rfl dX11_ocean_31 ?_
    obtain ⟨r_9, hc_10, hf⟩ := pcl_e hf
    refine m_callV (As := []) (rest := []) ⟨hx, hb, hml, hown, hts⟩ hX (ct_X4_seaCells l D cA q_ocean q_ocean_depths q_ocean_figures q_ocean_times s_ocean_pace s_ocean_fade depths_3 r_9 hc_10) (cwV 0 hts gX11_ocean_X4_seaCells rfl rfl rfl (by decide +kernel) ⟨Nat.le_of_ble_eq_true rfl, Nat.le_of_ble_eq_true rfl⟩) hP hD hS hA [1, 5] (by decide) rfl rfl (WS' := (w_X11_ocean a0 q_ocean q_text q_text_bytes q_ocean_figures q_ocean_depths q_trees q_found q_images q_search q_stories q_signs q_calendar q_draft q_ocean_times cA s_yearOfNow s_ocean_pace s_ocean_fade length_7 s_text_bytes figures_2 depths_3)) rfl 1 4 rfl rfl rfl hl.1 rfl (st' := [.int r_9]) rfl (Nat.le_of_ble_eq_true rfl) ⟨Nat.zero_le _, Nat.zero_le _⟩ dX11_ocean_34 (fun H locs hP hD hS => ?_)
    cases hf
    exact m_iret hx hb hr hlocks hP hS dX11_ocean_37
  have hf := pbr_f c_5 hf
  refine lv_bipush (v := (-10 : Int32)) hx hb dX11_ocean_17 (by decide) ?_
  refine lv_iload_n hx hb dX11_ocean_19 rfl (lv_at hl 0 rfl) ?_
  refine lv_isub hx hb dX11_ocean_20 ?_
  cases hf
  exact m_iret hx hb hr hlocks hP hS dX11_ocean_21

/-! ===== OrphanWave.depth(I)I ===== -/
abbrev rm_X11_depth : Room := { frames := 2, cells := 0, slots := 0, locals := 42 }
abbrev w_X11_depth (a0 : Nat) (q_ocean : Nat) (q_ocean_depths : Nat) (q_text : Nat) (q_trees : Nat) (q_found : Nat) (q_images : Nat) (q_search : Nat) (q_stories : Nat) (q_signs : Nat) (q_calendar : Nat) (q_draft : Nat) (q_ocean_figures : Nat) (q_ocean_times : Nat) (cA : Nat → ClassId) (s_yearOfNow : Int32) (s_ocean_pace : Int32) (s_ocean_fade : Int32) (s_ocean_depths : Nat → Int32) : va_W := [(a0, .inr (11, [.ref q_text, .ref q_ocean, .ref q_trees, .ref q_found, .ref q_images, .ref q_search, .ref q_stories, .ref q_signs, .ref q_calendar, .ref q_draft, .int s_yearOfNow])), (q_ocean, .inr (4, [.ref q_ocean_depths, .ref q_ocean_figures, .ref q_ocean_times, .int s_ocean_pace, .int s_ocean_fade])), (q_ocean_depths, .inl (cA 1, 48, .inl s_ocean_depths))]
theorem hn_X11_depth_X11 : ∀ w ∈ u_ws RX11 TX11 11, w ∈ wsX11_depth := by decide +kernel
theorem hn_X11_depth_X4 : ∀ w ∈ u_ws RX4 TX4 5, w ∈ wsX11_depth := by decide +kernel
theorem hw_X11_depth_f19 : Cond.fieldLink RX11 19 "OrphanWave" "ocean" "LOrphanWave$Ocean;" ∈ wsX11_depth := by decide +kernel

def f_X11_depth (x1 : Int32) (s_ocean_depths : Nat → Int32) : Option ((Int32)) :=
  pcl (f_X11_isCell x1) (fun r_1 => (
  pbr (r_1 = 0)
    (some ((-1 : Int32)))
    (pgd (pin x1 48) (
    some ((s_ocean_depths x1.toNatClampNeg))))))

set_option maxRecDepth 100000 in
set_option maxHeartbeats 4000000 in
theorem ct_X11_depth (l : Launch) (D : va_G) (cA : Nat → ClassId) (x1 : Int32) (a0 : Nat) (q_ocean : Nat) (q_ocean_depths : Nat) (q_text : Nat) (q_trees : Nat) (q_found : Nat) (q_images : Nat) (q_search : Nat) (q_stories : Nat) (q_signs : Nat) (q_calendar : Nat) (q_draft : Nat) (q_ocean_figures : Nat) (q_ocean_times : Nat) (s_yearOfNow : Int32) (s_ocean_pace : Int32) (s_ocean_fade : Int32) (s_ocean_depths : Nat → Int32) (o_r : Int32) (hf : f_X11_depth x1 s_ocean_depths = some o_r) : CT l yX11_depth wsX11_depth rm_X11_depth D cA [.ref a0, .int x1] (w_X11_depth a0 q_ocean q_ocean_depths q_text q_trees q_found q_images q_search q_stories q_signs q_calendar q_draft q_ocean_figures q_ocean_times cA s_yearOfNow s_ocean_pace s_ocean_fade s_ocean_depths) (w_X11_depth a0 q_ocean q_ocean_depths q_text q_trees q_found q_images q_search q_stories q_signs q_calendar q_draft q_ocean_figures q_ocean_times cA s_yearOfNow s_ocean_pace s_ocean_fade s_ocean_depths) (some (.int o_r)) := by
  refine CT.ofW (cc := cX11_depth) (maxL := 2) (ret := (some .int)) (by decide +kernel) rfl (Nat.le_of_ble_eq_true rfl) ?_
  intro p e s m below meth c A C0 hA hP hD ls hl
  have C0 : MX p s m [.ref a0, .int x1].toArray meth c cX11_depth 2 wsX11_depth RX11 (some .int) D cA := C0
  have hl : lv_has ls 2 [(0, .ref a0), (1, .int x1)] := hl
  obtain ⟨hx, hb, hml, hown, hts, hr, hlocks, hX⟩ := id C0
  have hK := hX.1
  have hN := hX.2
  have hS : va_S A s.heap s.heap [] := va_S.rf
  unfold f_X11_depth at hf
  refine lv_iload_n hx hb dX11_depth_0 rfl (lv_at hl 1 rfl) ?_
  obtain ⟨r_1, hc_2, hf⟩ := pcl_e hf
  refine m_callS (As := [.int x1]) (rest := []) ⟨hx, hb, hml, hown, hts⟩ hX (ct_X11_isCell l D cA x1 r_1 hc_2) (va_cwS 1 hts gX11_depth_X11_isCell rfl rfl rfl (by decide +kernel) ⟨Nat.le_of_ble_eq_true rfl, Nat.le_of_ble_eq_true rfl⟩) hP hD hS hA [] (by decide) rfl rfl (WS' := (w_X11_depth a0 q_ocean q_ocean_depths q_text q_trees q_found q_images q_search q_stories q_signs q_calendar q_draft q_ocean_figures q_ocean_times cA s_yearOfNow s_ocean_pace s_ocean_fade s_ocean_depths)) rfl rfl hl.1 rfl (st' := [.int r_1]) rfl (Nat.le_of_ble_eq_true rfl) ⟨Nat.zero_le _, Nat.zero_le _⟩ dX11_depth_1 (fun H locs hP hD hS => ?_)
  refine lv_if_eq (tgt := 19) hx hb dX11_depth_4 (by decide) (fun c_3 => ?_) (fun c_3 => ?_)
  · have hf := pbr_t c_3 hf
    refine lv_iconst (v := (-1 : Int32)) hx hb dX11_depth_19 (by decide) ?_
    cases hf
    exact m_iret hx hb hr hlocks hP hS dX11_depth_20
  have hf := pbr_f c_3 hf
  refine lv_aload_n hx hb dX11_depth_7 rfl (lv_at hl 0 rfl) ?_
  refine va_get (D := D) (ci := 11) (v := .ref q_ocean) (C := RX11) (T := TX11) (N := 11) hx hb hts hn_X11_depth_X11 hown hK hP 0 rfl rfl 1 (by decide) (hts _ hw_X11_depth_f19) (fun _ h9 => h9) rfl dX11_depth_8 ?_
  refine va_getN (D := D) (ci := 4) (v := .ref q_ocean_depths) (C := RX4) (T := TX4) (N := 5) hx hb hts hn_X11_depth_X4 hown hK hP 1 rfl rfl 0 (by decide) (va_Nw.use rfl (hN _ nw_X11_110)) (fun _ h9 => h9) rfl dX11_depth_11 ?_
  refine lv_iload_n hx hb dX11_depth_14 rfl (lv_at hl 1 rfl) ?_
  obtain ⟨g_4, hf⟩ := pgd_e hf
  refine va_iald hx hb hK hP 2 1 rfl rfl g_4 dX11_depth_15 ?_
  refine lv_goto (tgt := 20) hx hb dX11_depth_16 (by decide) ?_
  cases hf
  exact m_iret hx hb hr hlocks hP hS dX11_depth_20

/-! ===== OrphanWave.tune(II)I ===== -/
abbrev rm_X11_tune : Room := { frames := 2, cells := 0, slots := 0, locals := 42 }
abbrev w_X11_tune (a0 : Nat) (q_ocean : Nat) (q_text : Nat) (q_trees : Nat) (q_found : Nat) (q_images : Nat) (q_search : Nat) (q_stories : Nat) (q_signs : Nat) (q_calendar : Nat) (q_draft : Nat) (q_ocean_depths : Nat) (q_ocean_figures : Nat) (q_ocean_times : Nat) (cA : Nat → ClassId) (s_yearOfNow : Int32) (s_ocean_pace : Int32) (s_ocean_fade : Int32) : va_W := [(a0, .inr (11, [.ref q_text, .ref q_ocean, .ref q_trees, .ref q_found, .ref q_images, .ref q_search, .ref q_stories, .ref q_signs, .ref q_calendar, .ref q_draft, .int s_yearOfNow])), (q_ocean, .inr (4, [.ref q_ocean_depths, .ref q_ocean_figures, .ref q_ocean_times, .int s_ocean_pace, .int s_ocean_fade]))]
theorem hn_X11_tune_X11 : ∀ w ∈ u_ws RX11 TX11 11, w ∈ wsX11_tune := by decide +kernel
theorem hn_X11_tune_X4 : ∀ w ∈ u_ws RX4 TX4 5, w ∈ wsX11_tune := by decide +kernel
theorem hw_X11_tune_f19 : Cond.fieldLink RX11 19 "OrphanWave" "ocean" "LOrphanWave$Ocean;" ∈ wsX11_tune := by decide +kernel
theorem hw_X11_tune_f80 : Cond.fieldLink RX11 80 "OrphanWave" "yearOfNow" "I" ∈ wsX11_tune := by decide +kernel

def f_X11_tune_70 (x1 : Int32) (x2 : Int32) (x3 : Int32) (s_yearOfNow : Int32) (s_ocean_pace : Int32) (s_ocean_fade : Int32) : Option ((Int32) × (Int32) × (Int32) × (Int32)) :=
  pbr (x1 = (2 : Int32))
    (pcl (f_X11_isYear x2) (fun r_2 => (
    pbr (r_2 = 0)
      (some (x3, s_yearOfNow, s_ocean_pace, s_ocean_fade))
      (some (s_yearOfNow, x2, s_ocean_pace, s_ocean_fade)))))
    (some (x3, s_yearOfNow, s_ocean_pace, s_ocean_fade))

set_option maxRecDepth 100000 in
set_option maxHeartbeats 4000000 in
theorem k_X11_tune_70 {p : Program} {l : Launch} {e : Env} {s : State} {m : MethodId} {args : Array Value} {below : List Frame} {meth : Method} {c : Code} {A : Nat → Prop} {D : va_G} {cA : Nat → ClassId} (C0 : MX p s m args meth c cX11_tune 4 wsX11_tune RX11 (some .int) D cA) (hA : ∀ q, s.heap.size ≤ q → A q) {a0 : Nat} {q_ocean : Nat} {q_text : Nat} {q_trees : Nat} {q_found : Nat} {q_images : Nat} {q_search : Nat} {q_stories : Nat} {q_signs : Nat} {q_calendar : Nat} {q_draft : Nat} {q_ocean_depths : Nat} {q_ocean_figures : Nat} {q_ocean_times : Nat} {x1 : Int32} {x2 : Int32} {o_r : Int32} {o_yearOfNow : Int32} {o_ocean_pace : Int32} {o_ocean_fade : Int32} : ∀ (x3 : Int32) (s_yearOfNow : Int32) (s_ocean_pace : Int32) (s_ocean_fade : Int32), f_X11_tune_70 x1 x2 x3 s_yearOfNow s_ocean_pace s_ocean_fade = some (o_r, o_yearOfNow, o_ocean_pace, o_ocean_fade) → ∀ (H : Heap) (locs : List Loc), va_P D vwCl (w_X11_tune a0 q_ocean q_text q_trees q_found q_images q_search q_stories q_signs q_calendar q_draft q_ocean_depths q_ocean_figures q_ocean_times cA s_yearOfNow s_ocean_pace s_ocean_fade) H → va_D A (w_X11_tune a0 q_ocean q_text q_trees q_found q_images q_search q_stories q_signs q_calendar q_draft q_ocean_depths q_ocean_figures q_ocean_times cA s_yearOfNow s_ocean_pace s_ocean_fade) → va_S A s.heap H locs → ∀ ls : Array Slot, lv_has ls 4 [(0, .ref a0), (1, .int x1), (2, .int x2), (3, .int x3)] → W p l e rm_X11_tune s m args below meth c H locs 0 0 (MQ below (CQ D (some (.int o_r)) (w_X11_tune a0 q_ocean q_text q_trees q_found q_images q_search q_stories q_signs q_calendar q_draft q_ocean_depths q_ocean_figures q_ocean_times cA o_yearOfNow o_ocean_pace o_ocean_fade) A) args s 0 0 A) (F0 m 70 ls []) := by
  obtain ⟨hx, hb, hml, hown, hts, hr, hlocks, hX⟩ := C0
  have hK := hX.1
  have hN := hX.2
  intro x3 s_yearOfNow s_ocean_pace s_ocean_fade hf H locs hP hD hS ls hl
  unfold f_X11_tune_70 at hf
  refine lv_iload_n hx hb dX11_tune_70 rfl (lv_at hl 1 rfl) ?_
  refine lv_iconst (v := (2 : Int32)) hx hb dX11_tune_71 (by decide) ?_
  refine lv_icmp_ne (tgt := 92) hx hb dX11_tune_72 (by decide) (fun c_1 => ?_) (fun c_1 => ?_)
  · have hf := pbr_f c_1 hf
    refine lv_iload_n hx hb dX11_tune_92 rfl (lv_at hl 3 rfl) ?_
    cases hf
    exact m_iret hx hb hr hlocks hP hS dX11_tune_93
  have hf := pbr_t c_1 hf
  refine lv_iload_n hx hb dX11_tune_75 rfl (lv_at hl 2 rfl) ?_
  obtain ⟨r_2, hc_3, hf⟩ := pcl_e hf
  refine m_callS (As := [.int x2]) (rest := []) ⟨hx, hb, hml, hown, hts⟩ hX (ct_X11_isYear l D cA x2 r_2 hc_3) (va_cwS 1 hts gX11_tune_X11_isYear rfl rfl rfl (by decide +kernel) ⟨Nat.le_of_ble_eq_true rfl, Nat.le_of_ble_eq_true rfl⟩) hP hD hS hA [] (by decide) rfl rfl (WS' := (w_X11_tune a0 q_ocean q_text q_trees q_found q_images q_search q_stories q_signs q_calendar q_draft q_ocean_depths q_ocean_figures q_ocean_times cA s_yearOfNow s_ocean_pace s_ocean_fade)) rfl rfl hl.1 rfl (st' := [.int r_2]) rfl (Nat.le_of_ble_eq_true rfl) ⟨Nat.zero_le _, Nat.zero_le _⟩ dX11_tune_76 (fun H locs hP hD hS => ?_)
  refine lv_if_eq (tgt := 92) hx hb dX11_tune_79 (by decide) (fun c_4 => ?_) (fun c_4 => ?_)
  · have hf := pbr_t c_4 hf
    refine lv_iload_n hx hb dX11_tune_92 rfl (lv_at hl 3 rfl) ?_
    cases hf
    exact m_iret hx hb hr hlocks hP hS dX11_tune_93
  have hf := pbr_f c_4 hf
  refine lv_aload_n hx hb dX11_tune_82 rfl (lv_at hl 0 rfl) ?_
  refine va_get (D := D) (ci := 11) (v := .int s_yearOfNow) (C := RX11) (T := TX11) (N := 11) hx hb hts hn_X11_tune_X11 hown hK hP 0 rfl rfl 10 (by decide) (hts _ hw_X11_tune_f80) (fun _ h9 => h9) rfl dX11_tune_83 ?_
  refine lv_istore_n (lv' := [(3, .int s_yearOfNow), (0, .ref a0), (1, .int x1), (2, .int x2)]) hx hb dX11_tune_86 rfl hl (by decide) rfl (fun ls hl => ?_)
  refine lv_aload_n hx hb dX11_tune_87 rfl (lv_at hl 1 rfl) ?_
  refine lv_iload_n hx hb dX11_tune_88 rfl (lv_at hl 3 rfl) ?_
  refine va_put (D := D) (ci := 11) (v := .int x2) (ty := .int) (C := RX11) (T := TX11) (N := 11) hx hb hts hn_X11_tune_X11 tyX11 tyX11_ok nmX11 hown hK hP hD hS 0 rfl rfl 10 (by decide) (hts _ hw_X11_tune_f80) (fun _ h9 => h9) rfl (by decide +kernel) rfl rfl (Nat.le_of_ble_eq_true rfl) dX11_tune_89 (fun H locs hP hD hS => ?_)
  have hP : va_P D vwCl (w_X11_tune a0 q_ocean q_text q_trees q_found q_images q_search q_stories q_signs q_calendar q_draft q_ocean_depths q_ocean_figures q_ocean_times cA x2 s_ocean_pace s_ocean_fade) H := hP
  have hD : va_D A (w_X11_tune a0 q_ocean q_text q_trees q_found q_images q_search q_stories q_signs q_calendar q_draft q_ocean_depths q_ocean_figures q_ocean_times cA x2 s_ocean_pace s_ocean_fade) := hD
  refine lv_iload_n hx hb dX11_tune_92 rfl (lv_at hl 0 rfl) ?_
  cases hf
  exact m_iret hx hb hr hlocks hP hS dX11_tune_93

def f_X11_tune_35 (x1 : Int32) (x2 : Int32) (x3 : Int32) (s_yearOfNow : Int32) (s_ocean_pace : Int32) (s_ocean_fade : Int32) : Option ((Int32) × (Int32) × (Int32) × (Int32)) :=
  pbr (x1 = (1 : Int32))
    (pcl (f_X11_within x2 (1 : Int32) (999 : Int32)) (fun r_2 => (
    pbr (r_2 = 0)
      (f_X11_tune_70 x1 x2 x3 s_yearOfNow s_ocean_pace s_ocean_fade)
      (some (s_ocean_fade, s_yearOfNow, s_ocean_pace, x2)))))
    (f_X11_tune_70 x1 x2 x3 s_yearOfNow s_ocean_pace s_ocean_fade)

set_option maxRecDepth 100000 in
set_option maxHeartbeats 4000000 in
theorem k_X11_tune_35 {p : Program} {l : Launch} {e : Env} {s : State} {m : MethodId} {args : Array Value} {below : List Frame} {meth : Method} {c : Code} {A : Nat → Prop} {D : va_G} {cA : Nat → ClassId} (C0 : MX p s m args meth c cX11_tune 4 wsX11_tune RX11 (some .int) D cA) (hA : ∀ q, s.heap.size ≤ q → A q) {a0 : Nat} {q_ocean : Nat} {q_text : Nat} {q_trees : Nat} {q_found : Nat} {q_images : Nat} {q_search : Nat} {q_stories : Nat} {q_signs : Nat} {q_calendar : Nat} {q_draft : Nat} {q_ocean_depths : Nat} {q_ocean_figures : Nat} {q_ocean_times : Nat} {x1 : Int32} {x2 : Int32} {o_r : Int32} {o_yearOfNow : Int32} {o_ocean_pace : Int32} {o_ocean_fade : Int32} : ∀ (x3 : Int32) (s_yearOfNow : Int32) (s_ocean_pace : Int32) (s_ocean_fade : Int32), f_X11_tune_35 x1 x2 x3 s_yearOfNow s_ocean_pace s_ocean_fade = some (o_r, o_yearOfNow, o_ocean_pace, o_ocean_fade) → ∀ (H : Heap) (locs : List Loc), va_P D vwCl (w_X11_tune a0 q_ocean q_text q_trees q_found q_images q_search q_stories q_signs q_calendar q_draft q_ocean_depths q_ocean_figures q_ocean_times cA s_yearOfNow s_ocean_pace s_ocean_fade) H → va_D A (w_X11_tune a0 q_ocean q_text q_trees q_found q_images q_search q_stories q_signs q_calendar q_draft q_ocean_depths q_ocean_figures q_ocean_times cA s_yearOfNow s_ocean_pace s_ocean_fade) → va_S A s.heap H locs → ∀ ls : Array Slot, lv_has ls 4 [(0, .ref a0), (1, .int x1), (2, .int x2), (3, .int x3)] → W p l e rm_X11_tune s m args below meth c H locs 0 0 (MQ below (CQ D (some (.int o_r)) (w_X11_tune a0 q_ocean q_text q_trees q_found q_images q_search q_stories q_signs q_calendar q_draft q_ocean_depths q_ocean_figures q_ocean_times cA o_yearOfNow o_ocean_pace o_ocean_fade) A) args s 0 0 A) (F0 m 35 ls []) := by
  obtain ⟨hx, hb, hml, hown, hts, hr, hlocks, hX⟩ := C0
  have hK := hX.1
  have hN := hX.2
  intro x3 s_yearOfNow s_ocean_pace s_ocean_fade hf H locs hP hD hS ls hl
  unfold f_X11_tune_35 at hf
  refine lv_iload_n hx hb dX11_tune_35 rfl (lv_at hl 1 rfl) ?_
  refine lv_iconst (v := (1 : Int32)) hx hb dX11_tune_36 (by decide) ?_
  refine lv_icmp_ne (tgt := 70) hx hb dX11_tune_37 (by decide) (fun c_1 => ?_) (fun c_1 => ?_)
  · have hf := pbr_f c_1 hf
    exact k_X11_tune_70 ⟨hx, hb, hml, hown, hts, hr, hlocks, hX⟩ hA x3 s_yearOfNow s_ocean_pace s_ocean_fade hf _ _ hP hD hS ls (lv_sub hl [0, 1, 2, 3] rfl)
  have hf := pbr_t c_1 hf
  refine lv_iload_n hx hb dX11_tune_40 rfl (lv_at hl 2 rfl) ?_
  refine lv_iconst (v := (1 : Int32)) hx hb dX11_tune_41 (by decide) ?_
  refine lv_sipush (v := (999 : Int32)) hx hb dX11_tune_42 (by decide) ?_
  obtain ⟨r_2, hc_3, hf⟩ := pcl_e hf
  refine m_callS (As := [.int x2, .int (1 : Int32), .int (999 : Int32)]) (rest := []) ⟨hx, hb, hml, hown, hts⟩ hX (ct_X11_within l D cA x2 (1 : Int32) (999 : Int32) r_2 hc_3) (va_cwS 3 hts gX11_tune_X11_within rfl rfl rfl (by decide +kernel) ⟨Nat.le_of_ble_eq_true rfl, Nat.le_of_ble_eq_true rfl⟩) hP hD hS hA [] (by decide) rfl rfl (WS' := (w_X11_tune a0 q_ocean q_text q_trees q_found q_images q_search q_stories q_signs q_calendar q_draft q_ocean_depths q_ocean_figures q_ocean_times cA s_yearOfNow s_ocean_pace s_ocean_fade)) rfl rfl hl.1 rfl (st' := [.int r_2]) rfl (Nat.le_of_ble_eq_true rfl) ⟨Nat.zero_le _, Nat.zero_le _⟩ dX11_tune_45 (fun H locs hP hD hS => ?_)
  refine lv_if_eq (tgt := 70) hx hb dX11_tune_48 (by decide) (fun c_4 => ?_) (fun c_4 => ?_)
  · have hf := pbr_t c_4 hf
    exact k_X11_tune_70 ⟨hx, hb, hml, hown, hts, hr, hlocks, hX⟩ hA x3 s_yearOfNow s_ocean_pace s_ocean_fade hf _ _ hP hD hS ls (lv_sub hl [0, 1, 2, 3] rfl)
  have hf := pbr_f c_4 hf
  refine lv_aload_n hx hb dX11_tune_51 rfl (lv_at hl 0 rfl) ?_
  refine va_get (D := D) (ci := 11) (v := .ref q_ocean) (C := RX11) (T := TX11) (N := 11) hx hb hts hn_X11_tune_X11 hown hK hP 0 rfl rfl 1 (by decide) (hts _ hw_X11_tune_f19) (fun _ h9 => h9) rfl dX11_tune_52 ?_
  refine va_getN (D := D) (ci := 4) (v := .int s_ocean_fade) (C := RX4) (T := TX4) (N := 5) hx hb hts hn_X11_tune_X4 hown hK hP 1 rfl rfl 4 (by decide) (va_Nw.use rfl (hN _ nw_X11_117)) (fun _ h9 => h9) rfl dX11_tune_55 ?_
  refine lv_istore_n (lv' := [(3, .int s_ocean_fade), (0, .ref a0), (1, .int x1), (2, .int x2)]) hx hb dX11_tune_58 rfl hl (by decide) rfl (fun ls hl => ?_)
  refine lv_aload_n hx hb dX11_tune_59 rfl (lv_at hl 1 rfl) ?_
  refine va_get (D := D) (ci := 11) (v := .ref q_ocean) (C := RX11) (T := TX11) (N := 11) hx hb hts hn_X11_tune_X11 hown hK hP 0 rfl rfl 1 (by decide) (hts _ hw_X11_tune_f19) (fun _ h9 => h9) rfl dX11_tune_60 ?_
  refine lv_iload_n hx hb dX11_tune_63 rfl (lv_at hl 3 rfl) ?_
  refine va_putN (D := D) (ci := 4) (v := .int x2) (ty := .int) (C := RX4) (T := TX4) (N := 5) hx hb hts hn_X11_tune_X4 tyX4 tyX4_ok nmX4 hown hK hP hD hS 1 rfl rfl 4 (by decide) (va_Nw.use rfl (hN _ nw_X11_117)) (fun _ h9 => h9) rfl (by decide +kernel) rfl rfl (Nat.le_of_ble_eq_true rfl) dX11_tune_64 (fun H locs hP hD hS => ?_)
  have hP : va_P D vwCl (w_X11_tune a0 q_ocean q_text q_trees q_found q_images q_search q_stories q_signs q_calendar q_draft q_ocean_depths q_ocean_figures q_ocean_times cA s_yearOfNow s_ocean_pace x2) H := hP
  have hD : va_D A (w_X11_tune a0 q_ocean q_text q_trees q_found q_images q_search q_stories q_signs q_calendar q_draft q_ocean_depths q_ocean_figures q_ocean_times cA s_yearOfNow s_ocean_pace x2) := hD
  refine lv_goto (tgt := 92) hx hb dX11_tune_67 (by decide) ?_
  refine lv_iload_n hx hb dX11_tune_92 rfl (lv_at hl 0 rfl) ?_
  cases hf
  exact m_iret hx hb hr hlocks hP hS dX11_tune_93

def f_X11_tune (x1 : Int32) (x2 : Int32) (s_yearOfNow : Int32) (s_ocean_pace : Int32) (s_ocean_fade : Int32) : Option ((Int32) × (Int32) × (Int32) × (Int32)) :=
  pbr (x1 = 0)
    (pcl (f_X11_within x2 (1 : Int32) (9 : Int32)) (fun r_2 => (
    pbr (r_2 = 0)
      (f_X11_tune_35 x1 x2 (-1 : Int32) s_yearOfNow s_ocean_pace s_ocean_fade)
      (some (s_ocean_pace, s_yearOfNow, x2, s_ocean_fade)))))
    (f_X11_tune_35 x1 x2 (-1 : Int32) s_yearOfNow s_ocean_pace s_ocean_fade)

set_option maxRecDepth 100000 in
set_option maxHeartbeats 4000000 in
theorem ct_X11_tune (l : Launch) (D : va_G) (cA : Nat → ClassId) (x1 : Int32) (x2 : Int32) (a0 : Nat) (q_ocean : Nat) (q_text : Nat) (q_trees : Nat) (q_found : Nat) (q_images : Nat) (q_search : Nat) (q_stories : Nat) (q_signs : Nat) (q_calendar : Nat) (q_draft : Nat) (q_ocean_depths : Nat) (q_ocean_figures : Nat) (q_ocean_times : Nat) (s_yearOfNow : Int32) (s_ocean_pace : Int32) (s_ocean_fade : Int32) (o_r : Int32) (o_yearOfNow : Int32) (o_ocean_pace : Int32) (o_ocean_fade : Int32) (hf : f_X11_tune x1 x2 s_yearOfNow s_ocean_pace s_ocean_fade = some (o_r, o_yearOfNow, o_ocean_pace, o_ocean_fade)) : CT l yX11_tune wsX11_tune rm_X11_tune D cA [.ref a0, .int x1, .int x2] (w_X11_tune a0 q_ocean q_text q_trees q_found q_images q_search q_stories q_signs q_calendar q_draft q_ocean_depths q_ocean_figures q_ocean_times cA s_yearOfNow s_ocean_pace s_ocean_fade) (w_X11_tune a0 q_ocean q_text q_trees q_found q_images q_search q_stories q_signs q_calendar q_draft q_ocean_depths q_ocean_figures q_ocean_times cA o_yearOfNow o_ocean_pace o_ocean_fade) (some (.int o_r)) := by
  refine CT.ofW (cc := cX11_tune) (maxL := 4) (ret := (some .int)) (by decide +kernel) rfl (Nat.le_of_ble_eq_true rfl) ?_
  intro p e s m below meth c A C0 hA hP hD ls hl
  have C0 : MX p s m [.ref a0, .int x1, .int x2].toArray meth c cX11_tune 4 wsX11_tune RX11 (some .int) D cA := C0
  have hl : lv_has ls 4 [(0, .ref a0), (1, .int x1), (2, .int x2)] := hl
  obtain ⟨hx, hb, hml, hown, hts, hr, hlocks, hX⟩ := id C0
  have hK := hX.1
  have hN := hX.2
  have hS : va_S A s.heap s.heap [] := va_S.rf
  unfold f_X11_tune at hf
  refine lv_iconst (v := (-1 : Int32)) hx hb dX11_tune_0 (by decide) ?_
  refine lv_istore_n (lv' := [(3, .int (-1 : Int32)), (0, .ref a0), (1, .int x1), (2, .int x2)]) hx hb dX11_tune_1 rfl hl (by decide) rfl (fun ls hl => ?_)
  refine lv_iload_n hx hb dX11_tune_2 rfl (lv_at hl 2 rfl) ?_
  refine lv_if_ne (tgt := 35) hx hb dX11_tune_3 (by decide) (fun c_1 => ?_) (fun c_1 => ?_)
  · have hf := pbr_f c_1 hf
    exact k_X11_tune_35 C0 hA (-1 : Int32) s_yearOfNow s_ocean_pace s_ocean_fade hf _ _ hP hD hS ls (lv_sub hl [1, 2, 3, 0] rfl)
  have hf := pbr_t c_1 hf
  refine lv_iload_n hx hb dX11_tune_6 rfl (lv_at hl 3 rfl) ?_
  refine lv_iconst (v := (1 : Int32)) hx hb dX11_tune_7 (by decide) ?_
  refine lv_bipush (v := (9 : Int32)) hx hb dX11_tune_8 (by decide) ?_
  obtain ⟨r_2, hc_3, hf⟩ := pcl_e hf
  refine m_callS (As := [.int x2, .int (1 : Int32), .int (9 : Int32)]) (rest := []) ⟨hx, hb, hml, hown, hts⟩ hX (ct_X11_within l D cA x2 (1 : Int32) (9 : Int32) r_2 hc_3) (va_cwS 3 hts gX11_tune_X11_within rfl rfl rfl (by decide +kernel) ⟨Nat.le_of_ble_eq_true rfl, Nat.le_of_ble_eq_true rfl⟩) hP hD hS hA [] (by decide) rfl rfl (WS' := (w_X11_tune a0 q_ocean q_text q_trees q_found q_images q_search q_stories q_signs q_calendar q_draft q_ocean_depths q_ocean_figures q_ocean_times cA s_yearOfNow s_ocean_pace s_ocean_fade)) rfl rfl hl.1 rfl (st' := [.int r_2]) rfl (Nat.le_of_ble_eq_true rfl) ⟨Nat.zero_le _, Nat.zero_le _⟩ dX11_tune_10 (fun H locs hP hD hS => ?_)
  refine lv_if_eq (tgt := 35) hx hb dX11_tune_13 (by decide) (fun c_4 => ?_) (fun c_4 => ?_)
  · have hf := pbr_t c_4 hf
    exact k_X11_tune_35 C0 hA (-1 : Int32) s_yearOfNow s_ocean_pace s_ocean_fade hf _ _ hP hD hS ls (lv_sub hl [1, 2, 3, 0] rfl)
  have hf := pbr_f c_4 hf
  refine lv_aload_n hx hb dX11_tune_16 rfl (lv_at hl 1 rfl) ?_
  refine va_get (D := D) (ci := 11) (v := .ref q_ocean) (C := RX11) (T := TX11) (N := 11) hx hb hts hn_X11_tune_X11 hown hK hP 0 rfl rfl 1 (by decide) (hts _ hw_X11_tune_f19) (fun _ h9 => h9) rfl dX11_tune_17 ?_
  refine va_getN (D := D) (ci := 4) (v := .int s_ocean_pace) (C := RX4) (T := TX4) (N := 5) hx hb hts hn_X11_tune_X4 hown hK hP 1 rfl rfl 3 (by decide) (va_Nw.use rfl (hN _ nw_X11_114)) (fun _ h9 => h9) rfl dX11_tune_20 ?_
  refine lv_istore_n (lv' := [(3, .int s_ocean_pace), (0, .ref a0), (1, .int x1), (2, .int x2)]) hx hb dX11_tune_23 rfl hl (by decide) rfl (fun ls hl => ?_)
  refine lv_aload_n hx hb dX11_tune_24 rfl (lv_at hl 1 rfl) ?_
  refine va_get (D := D) (ci := 11) (v := .ref q_ocean) (C := RX11) (T := TX11) (N := 11) hx hb hts hn_X11_tune_X11 hown hK hP 0 rfl rfl 1 (by decide) (hts _ hw_X11_tune_f19) (fun _ h9 => h9) rfl dX11_tune_25 ?_
  refine lv_iload_n hx hb dX11_tune_28 rfl (lv_at hl 3 rfl) ?_
  refine va_putN (D := D) (ci := 4) (v := .int x2) (ty := .int) (C := RX4) (T := TX4) (N := 5) hx hb hts hn_X11_tune_X4 tyX4 tyX4_ok nmX4 hown hK hP hD hS 1 rfl rfl 3 (by decide) (va_Nw.use rfl (hN _ nw_X11_114)) (fun _ h9 => h9) rfl (by decide +kernel) rfl rfl (Nat.le_of_ble_eq_true rfl) dX11_tune_29 (fun H locs hP hD hS => ?_)
  have hP : va_P D vwCl (w_X11_tune a0 q_ocean q_text q_trees q_found q_images q_search q_stories q_signs q_calendar q_draft q_ocean_depths q_ocean_figures q_ocean_times cA s_yearOfNow x2 s_ocean_fade) H := hP
  have hD : va_D A (w_X11_tune a0 q_ocean q_text q_trees q_found q_images q_search q_stories q_signs q_calendar q_draft q_ocean_depths q_ocean_figures q_ocean_times cA s_yearOfNow x2 s_ocean_fade) := hD
  refine lv_goto (tgt := 92) hx hb dX11_tune_32 (by decide) ?_
  refine lv_iload_n hx hb dX11_tune_92 rfl (lv_at hl 0 rfl) ?_
  cases hf
  exact m_iret hx hb hr hlocks hP hS dX11_tune_93

/-! ===== OrphanWave.time(II)I ===== -/
abbrev rm_X11_time : Room := { frames := 4, cells := 0, slots := 0, locals := 94 }
abbrev w_X11_time (a0 : Nat) (q_ocean : Nat) (q_ocean_times : Nat) (q_ocean_depths : Nat) (q_text : Nat) (q_trees : Nat) (q_found : Nat) (q_images : Nat) (q_search : Nat) (q_stories : Nat) (q_signs : Nat) (q_calendar : Nat) (q_draft : Nat) (q_ocean_figures : Nat) (cA : Nat → ClassId) (s_yearOfNow : Int32) (s_ocean_pace : Int32) (s_ocean_fade : Int32) (s_ocean_times : Nat → Int32) (s_ocean_depths : Nat → Int32) : va_W := [(a0, .inr (11, [.ref q_text, .ref q_ocean, .ref q_trees, .ref q_found, .ref q_images, .ref q_search, .ref q_stories, .ref q_signs, .ref q_calendar, .ref q_draft, .int s_yearOfNow])), (q_ocean, .inr (4, [.ref q_ocean_depths, .ref q_ocean_figures, .ref q_ocean_times, .int s_ocean_pace, .int s_ocean_fade])), (q_ocean_times, .inl (cA 1, 48, .inl s_ocean_times)), (q_ocean_depths, .inl (cA 1, 48, .inl s_ocean_depths))]
theorem hn_X11_time_X11 : ∀ w ∈ u_ws RX11 TX11 11, w ∈ wsX11_time := by decide +kernel
theorem hw_X11_time_f19 : Cond.fieldLink RX11 19 "OrphanWave" "ocean" "LOrphanWave$Ocean;" ∈ wsX11_time := by decide +kernel

def f_X11_time (x1 : Int32) (x2 : Int32) (s_ocean_pace : Int32) (s_ocean_times : Nat → Int32) (s_ocean_depths : Nat → Int32) : Option ((Int32) × (Nat → Int32)) :=
  pcl (f_X11_isCell x1) (fun r_1 => (
  pbr (r_1 = 0)
    (some ((-1 : Int32), s_ocean_times))
    (pcl (f_X11_isCell x2) (fun r_4 => (
    pbr (r_4 = 0)
      (some ((-1 : Int32), s_ocean_times))
      (pcl (f_X4_travel x1 x2 s_ocean_pace s_ocean_times s_ocean_depths) (fun (r_7, times_8) => (
      some (r_7, times_8)))))))))

set_option maxRecDepth 100000 in
set_option maxHeartbeats 4000000 in
theorem ct_X11_time (l : Launch) (D : va_G) (cA : Nat → ClassId) (x1 : Int32) (x2 : Int32) (a0 : Nat) (q_ocean : Nat) (q_ocean_times : Nat) (q_ocean_depths : Nat) (q_text : Nat) (q_trees : Nat) (q_found : Nat) (q_images : Nat) (q_search : Nat) (q_stories : Nat) (q_signs : Nat) (q_calendar : Nat) (q_draft : Nat) (q_ocean_figures : Nat) (s_yearOfNow : Int32) (s_ocean_pace : Int32) (s_ocean_fade : Int32) (s_ocean_times : Nat → Int32) (s_ocean_depths : Nat → Int32) (o_r : Int32) (o_ocean_times : Nat → Int32) (hf : f_X11_time x1 x2 s_ocean_pace s_ocean_times s_ocean_depths = some (o_r, o_ocean_times)) : CT l yX11_time wsX11_time rm_X11_time D cA [.ref a0, .int x1, .int x2] (w_X11_time a0 q_ocean q_ocean_times q_ocean_depths q_text q_trees q_found q_images q_search q_stories q_signs q_calendar q_draft q_ocean_figures cA s_yearOfNow s_ocean_pace s_ocean_fade s_ocean_times s_ocean_depths) (w_X11_time a0 q_ocean q_ocean_times q_ocean_depths q_text q_trees q_found q_images q_search q_stories q_signs q_calendar q_draft q_ocean_figures cA s_yearOfNow s_ocean_pace s_ocean_fade o_ocean_times s_ocean_depths) (some (.int o_r)) := by
  refine CT.ofW (cc := cX11_time) (maxL := 3) (ret := (some .int)) (by decide +kernel) rfl (Nat.le_of_ble_eq_true rfl) ?_
  intro p e s m below meth c A C0 hA hP hD ls hl
  have C0 : MX p s m [.ref a0, .int x1, .int x2].toArray meth c cX11_time 3 wsX11_time RX11 (some .int) D cA := C0
  have hl : lv_has ls 3 [(0, .ref a0), (1, .int x1), (2, .int x2)] := hl
  obtain ⟨hx, hb, hml, hown, hts, hr, hlocks, hX⟩ := id C0
  have hK := hX.1
  have hN := hX.2
  have hS : va_S A s.heap s.heap [] := va_S.rf
  unfold f_X11_time at hf
  refine lv_iload_n hx hb dX11_time_0 rfl (lv_at hl 1 rfl) ?_
  obtain ⟨r_1, hc_2, hf⟩ := pcl_e hf
  refine m_callS (As := [.int x1]) (rest := []) ⟨hx, hb, hml, hown, hts⟩ hX (ct_X11_isCell l D cA x1 r_1 hc_2) (va_cwS 1 hts gX11_time_X11_isCell rfl rfl rfl (by decide +kernel) ⟨Nat.le_of_ble_eq_true rfl, Nat.le_of_ble_eq_true rfl⟩) hP hD hS hA [] (by decide) rfl rfl (WS' := (w_X11_time a0 q_ocean q_ocean_times q_ocean_depths q_text q_trees q_found q_images q_search q_stories q_signs q_calendar q_draft q_ocean_figures cA s_yearOfNow s_ocean_pace s_ocean_fade s_ocean_times s_ocean_depths)) rfl rfl hl.1 rfl (st' := [.int r_1]) rfl (Nat.le_of_ble_eq_true rfl) ⟨Nat.zero_le _, Nat.zero_le _⟩ dX11_time_1 (fun H locs hP hD hS => ?_)
  refine lv_if_eq (tgt := 14) hx hb dX11_time_4 (by decide) (fun c_3 => ?_) (fun c_3 => ?_)
  · have hf := pbr_t c_3 hf
    refine lv_iconst (v := (-1 : Int32)) hx hb dX11_time_14 (by decide) ?_
    cases hf
    exact m_iret hx hb hr hlocks hP hS dX11_time_15
  have hf := pbr_f c_3 hf
  refine lv_iload_n hx hb dX11_time_7 rfl (lv_at hl 2 rfl) ?_
  obtain ⟨r_4, hc_5, hf⟩ := pcl_e hf
  refine m_callS (As := [.int x2]) (rest := []) ⟨hx, hb, hml, hown, hts⟩ hX (ct_X11_isCell l D cA x2 r_4 hc_5) (va_cwS 1 hts gX11_time_X11_isCell rfl rfl rfl (by decide +kernel) ⟨Nat.le_of_ble_eq_true rfl, Nat.le_of_ble_eq_true rfl⟩) hP hD hS hA [] (by decide) rfl rfl (WS' := (w_X11_time a0 q_ocean q_ocean_times q_ocean_depths q_text q_trees q_found q_images q_search q_stories q_signs q_calendar q_draft q_ocean_figures cA s_yearOfNow s_ocean_pace s_ocean_fade s_ocean_times s_ocean_depths)) rfl rfl hl.1 rfl (st' := [.int r_4]) rfl (Nat.le_of_ble_eq_true rfl) ⟨Nat.zero_le _, Nat.zero_le _⟩ dX11_time_8 (fun H locs hP hD hS => ?_)
  refine lv_if_ne (tgt := 16) hx hb dX11_time_11 (by decide) (fun c_6 => ?_) (fun c_6 => ?_)
  · have hf := pbr_f c_6 hf
    refine lv_aload_n hx hb dX11_time_16 rfl (lv_at hl 0 rfl) ?_
    refine va_get (D := D) (ci := 11) (v := .ref q_ocean) (C := RX11) (T := TX11) (N := 11) hx hb hts hn_X11_time_X11 hown hK hP 0 rfl rfl 1 (by decide) (hts _ hw_X11_time_f19) (fun _ h9 => h9) rfl dX11_time_17 ?_
    refine lv_iload_n hx hb dX11_time_20 rfl (lv_at hl 1 rfl) ?_
    refine lv_iload_n hx hb dX11_time_21 rfl (lv_at hl 2 rfl) ?_
    obtain ⟨⟨r_7, times_8⟩, hc_9, hf⟩ := pcl_e hf
    refine m_callV (As := [.int x1, .int x2]) (rest := []) ⟨hx, hb, hml, hown, hts⟩ hX (ct_X4_travel l D cA x1 x2 q_ocean q_ocean_times q_ocean_depths q_ocean_figures s_ocean_pace s_ocean_fade s_ocean_times s_ocean_depths r_7 times_8 hc_9) (cwV 2 hts gX11_time_X4_travel rfl rfl rfl (by decide +kernel) ⟨Nat.le_of_ble_eq_true rfl, Nat.le_of_ble_eq_true rfl⟩) hP hD hS hA [1, 2, 3] (by decide) rfl rfl (WS' := (w_X11_time a0 q_ocean q_ocean_times q_ocean_depths q_text q_trees q_found q_images q_search q_stories q_signs q_calendar q_draft q_ocean_figures cA s_yearOfNow s_ocean_pace s_ocean_fade times_8 s_ocean_depths)) rfl 1 4 rfl rfl rfl hl.1 rfl (st' := [.int r_7]) rfl (Nat.le_of_ble_eq_true rfl) ⟨Nat.zero_le _, Nat.zero_le _⟩ dX11_time_22 (fun H locs hP hD hS => ?_)
    cases hf
    exact m_iret hx hb hr hlocks hP hS dX11_time_25
  have hf := pbr_t c_6 hf
  refine lv_iconst (v := (-1 : Int32)) hx hb dX11_time_14 (by decide) ?_
  cases hf
  exact m_iret hx hb hr hlocks hP hS dX11_time_15

/-! ===== OrphanWave.height(III)I ===== -/
abbrev rm_X11_height : Room := { frames := 4, cells := 0, slots := 0, locals := 94 }
abbrev w_X11_height (a0 : Nat) (q_ocean : Nat) (q_ocean_times : Nat) (q_ocean_depths : Nat) (q_text : Nat) (q_trees : Nat) (q_found : Nat) (q_images : Nat) (q_search : Nat) (q_stories : Nat) (q_signs : Nat) (q_calendar : Nat) (q_draft : Nat) (q_ocean_figures : Nat) (cA : Nat → ClassId) (s_yearOfNow : Int32) (s_ocean_pace : Int32) (s_ocean_fade : Int32) (s_ocean_times : Nat → Int32) (s_ocean_depths : Nat → Int32) : va_W := [(a0, .inr (11, [.ref q_text, .ref q_ocean, .ref q_trees, .ref q_found, .ref q_images, .ref q_search, .ref q_stories, .ref q_signs, .ref q_calendar, .ref q_draft, .int s_yearOfNow])), (q_ocean, .inr (4, [.ref q_ocean_depths, .ref q_ocean_figures, .ref q_ocean_times, .int s_ocean_pace, .int s_ocean_fade])), (q_ocean_times, .inl (cA 1, 48, .inl s_ocean_times)), (q_ocean_depths, .inl (cA 1, 48, .inl s_ocean_depths))]
theorem hn_X11_height_X11 : ∀ w ∈ u_ws RX11 TX11 11, w ∈ wsX11_height := by decide +kernel
theorem hw_X11_height_f19 : Cond.fieldLink RX11 19 "OrphanWave" "ocean" "LOrphanWave$Ocean;" ∈ wsX11_height := by decide +kernel

def f_X11_height (x1 : Int32) (x2 : Int32) (x3 : Int32) (s_ocean_pace : Int32) (s_ocean_fade : Int32) (s_ocean_times : Nat → Int32) (s_ocean_depths : Nat → Int32) : Option ((Int32) × (Nat → Int32)) :=
  pcl (f_X11_isCell x1) (fun r_1 => (
  pbr (r_1 = 0)
    (some ((-1 : Int32), s_ocean_times))
    (pcl (f_X11_isSize x2) (fun r_4 => (
    pbr (r_4 = 0)
      (some ((-1 : Int32), s_ocean_times))
      (pcl (f_X11_isCell x3) (fun r_7 => (
      pbr (r_7 = 0)
        (some ((-1 : Int32), s_ocean_times))
        (pcl (f_X4_travel x1 x3 s_ocean_pace s_ocean_times s_ocean_depths) (fun (r_10, times_11) => (
        pcl (f_X4_swell r_10 x2 x3 s_ocean_fade s_ocean_depths) (fun r_13 => (
        some (r_13, times_11))))))))))))))

set_option maxRecDepth 100000 in
set_option maxHeartbeats 4000000 in
theorem ct_X11_height (l : Launch) (D : va_G) (cA : Nat → ClassId) (x1 : Int32) (x2 : Int32) (x3 : Int32) (a0 : Nat) (q_ocean : Nat) (q_ocean_times : Nat) (q_ocean_depths : Nat) (q_text : Nat) (q_trees : Nat) (q_found : Nat) (q_images : Nat) (q_search : Nat) (q_stories : Nat) (q_signs : Nat) (q_calendar : Nat) (q_draft : Nat) (q_ocean_figures : Nat) (s_yearOfNow : Int32) (s_ocean_pace : Int32) (s_ocean_fade : Int32) (s_ocean_times : Nat → Int32) (s_ocean_depths : Nat → Int32) (o_r : Int32) (o_ocean_times : Nat → Int32) (hf : f_X11_height x1 x2 x3 s_ocean_pace s_ocean_fade s_ocean_times s_ocean_depths = some (o_r, o_ocean_times)) : CT l yX11_height wsX11_height rm_X11_height D cA [.ref a0, .int x1, .int x2, .int x3] (w_X11_height a0 q_ocean q_ocean_times q_ocean_depths q_text q_trees q_found q_images q_search q_stories q_signs q_calendar q_draft q_ocean_figures cA s_yearOfNow s_ocean_pace s_ocean_fade s_ocean_times s_ocean_depths) (w_X11_height a0 q_ocean q_ocean_times q_ocean_depths q_text q_trees q_found q_images q_search q_stories q_signs q_calendar q_draft q_ocean_figures cA s_yearOfNow s_ocean_pace s_ocean_fade o_ocean_times s_ocean_depths) (some (.int o_r)) := by
  refine CT.ofW (cc := cX11_height) (maxL := 4) (ret := (some .int)) (by decide +kernel) rfl (Nat.le_of_ble_eq_true rfl) ?_
  intro p e s m below meth c A C0 hA hP hD ls hl
  have C0 : MX p s m [.ref a0, .int x1, .int x2, .int x3].toArray meth c cX11_height 4 wsX11_height RX11 (some .int) D cA := C0
  have hl : lv_has ls 4 [(0, .ref a0), (1, .int x1), (2, .int x2), (3, .int x3)] := hl
  obtain ⟨hx, hb, hml, hown, hts, hr, hlocks, hX⟩ := id C0
  have hK := hX.1
  have hN := hX.2
  have hS : va_S A s.heap s.heap [] := va_S.rf
  unfold f_X11_height at hf
  refine lv_iload_n hx hb dX11_height_0 rfl (lv_at hl 1 rfl) ?_
  obtain ⟨r_1, hc_2, hf⟩ := pcl_e hf
  refine m_callS (As := [.int x1]) (rest := []) ⟨hx, hb, hml, hown, hts⟩ hX (ct_X11_isCell l D cA x1 r_1 hc_2) (va_cwS 1 hts gX11_height_X11_isCell rfl rfl rfl (by decide +kernel) ⟨Nat.le_of_ble_eq_true rfl, Nat.le_of_ble_eq_true rfl⟩) hP hD hS hA [] (by decide) rfl rfl (WS' := (w_X11_height a0 q_ocean q_ocean_times q_ocean_depths q_text q_trees q_found q_images q_search q_stories q_signs q_calendar q_draft q_ocean_figures cA s_yearOfNow s_ocean_pace s_ocean_fade s_ocean_times s_ocean_depths)) rfl rfl hl.1 rfl (st' := [.int r_1]) rfl (Nat.le_of_ble_eq_true rfl) ⟨Nat.zero_le _, Nat.zero_le _⟩ dX11_height_1 (fun H locs hP hD hS => ?_)
  refine lv_if_eq (tgt := 21) hx hb dX11_height_4 (by decide) (fun c_3 => ?_) (fun c_3 => ?_)
  · have hf := pbr_t c_3 hf
    refine lv_iconst (v := (-1 : Int32)) hx hb dX11_height_21 (by decide) ?_
    cases hf
    exact m_iret hx hb hr hlocks hP hS dX11_height_22
  have hf := pbr_f c_3 hf
  refine lv_iload_n hx hb dX11_height_7 rfl (lv_at hl 2 rfl) ?_
  obtain ⟨r_4, hc_5, hf⟩ := pcl_e hf
  refine m_callS (As := [.int x2]) (rest := []) ⟨hx, hb, hml, hown, hts⟩ hX (ct_X11_isSize l D cA x2 r_4 hc_5) (va_cwS 1 hts gX11_height_X11_isSize rfl rfl rfl (by decide +kernel) ⟨Nat.le_of_ble_eq_true rfl, Nat.le_of_ble_eq_true rfl⟩) hP hD hS hA [] (by decide) rfl rfl (WS' := (w_X11_height a0 q_ocean q_ocean_times q_ocean_depths q_text q_trees q_found q_images q_search q_stories q_signs q_calendar q_draft q_ocean_figures cA s_yearOfNow s_ocean_pace s_ocean_fade s_ocean_times s_ocean_depths)) rfl rfl hl.1 rfl (st' := [.int r_4]) rfl (Nat.le_of_ble_eq_true rfl) ⟨Nat.zero_le _, Nat.zero_le _⟩ dX11_height_8 (fun H locs hP hD hS => ?_)
  refine lv_if_eq (tgt := 21) hx hb dX11_height_11 (by decide) (fun c_6 => ?_) (fun c_6 => ?_)
  · have hf := pbr_t c_6 hf
    refine lv_iconst (v := (-1 : Int32)) hx hb dX11_height_21 (by decide) ?_
    cases hf
    exact m_iret hx hb hr hlocks hP hS dX11_height_22
  have hf := pbr_f c_6 hf
  refine lv_iload_n hx hb dX11_height_14 rfl (lv_at hl 3 rfl) ?_
  obtain ⟨r_7, hc_8, hf⟩ := pcl_e hf
  refine m_callS (As := [.int x3]) (rest := []) ⟨hx, hb, hml, hown, hts⟩ hX (ct_X11_isCell l D cA x3 r_7 hc_8) (va_cwS 1 hts gX11_height_X11_isCell rfl rfl rfl (by decide +kernel) ⟨Nat.le_of_ble_eq_true rfl, Nat.le_of_ble_eq_true rfl⟩) hP hD hS hA [] (by decide) rfl rfl (WS' := (w_X11_height a0 q_ocean q_ocean_times q_ocean_depths q_text q_trees q_found q_images q_search q_stories q_signs q_calendar q_draft q_ocean_figures cA s_yearOfNow s_ocean_pace s_ocean_fade s_ocean_times s_ocean_depths)) rfl rfl hl.1 rfl (st' := [.int r_7]) rfl (Nat.le_of_ble_eq_true rfl) ⟨Nat.zero_le _, Nat.zero_le _⟩ dX11_height_15 (fun H locs hP hD hS => ?_)
  refine lv_if_ne (tgt := 23) hx hb dX11_height_18 (by decide) (fun c_9 => ?_) (fun c_9 => ?_)
  · have hf := pbr_f c_9 hf
    refine lv_aload_n hx hb dX11_height_23 rfl (lv_at hl 0 rfl) ?_
    refine va_get (D := D) (ci := 11) (v := .ref q_ocean) (C := RX11) (T := TX11) (N := 11) hx hb hts hn_X11_height_X11 hown hK hP 0 rfl rfl 1 (by decide) (hts _ hw_X11_height_f19) (fun _ h9 => h9) rfl dX11_height_24 ?_
    refine lv_aload_n hx hb dX11_height_27 rfl (lv_at hl 0 rfl) ?_
    refine va_get (D := D) (ci := 11) (v := .ref q_ocean) (C := RX11) (T := TX11) (N := 11) hx hb hts hn_X11_height_X11 hown hK hP 0 rfl rfl 1 (by decide) (hts _ hw_X11_height_f19) (fun _ h9 => h9) rfl dX11_height_28 ?_
    refine lv_iload_n hx hb dX11_height_31 rfl (lv_at hl 1 rfl) ?_
    refine lv_iload_n hx hb dX11_height_32 rfl (lv_at hl 3 rfl) ?_
    obtain ⟨⟨r_10, times_11⟩, hc_12, hf⟩ := pcl_e hf
    refine m_callV (As := [.int x1, .int x3]) (rest := [.ref q_ocean]) ⟨hx, hb, hml, hown, hts⟩ hX (ct_X4_travel l D cA x1 x3 q_ocean q_ocean_times q_ocean_depths q_ocean_figures s_ocean_pace s_ocean_fade s_ocean_times s_ocean_depths r_10 times_11 hc_12) (cwV 2 hts gX11_height_X4_travel rfl rfl rfl (by decide +kernel) ⟨Nat.le_of_ble_eq_true rfl, Nat.le_of_ble_eq_true rfl⟩) hP hD hS hA [1, 2, 3] (by decide) rfl rfl (WS' := (w_X11_height a0 q_ocean q_ocean_times q_ocean_depths q_text q_trees q_found q_images q_search q_stories q_signs q_calendar q_draft q_ocean_figures cA s_yearOfNow s_ocean_pace s_ocean_fade times_11 s_ocean_depths)) rfl 1 4 rfl rfl rfl hl.1 rfl (st' := [.int r_10, .ref q_ocean]) rfl (Nat.le_of_ble_eq_true rfl) ⟨Nat.zero_le _, Nat.zero_le _⟩ dX11_height_33 (fun H locs hP hD hS => ?_)
    refine lv_iload_n hx hb dX11_height_36 rfl (lv_at hl 2 rfl) ?_
    refine lv_iload_n hx hb dX11_height_37 rfl (lv_at hl 3 rfl) ?_
    obtain ⟨r_13, hc_14, hf⟩ := pcl_e hf
    refine m_callV (As := [.int r_10, .int x2, .int x3]) (rest := []) ⟨hx, hb, hml, hown, hts⟩ hX (ct_X4_swell l D cA r_10 x2 x3 q_ocean q_ocean_depths q_ocean_figures q_ocean_times s_ocean_pace s_ocean_fade s_ocean_depths r_13 hc_14) (cwV 3 hts gX11_height_X4_swell rfl rfl rfl (by decide +kernel) ⟨Nat.le_of_ble_eq_true rfl, Nat.le_of_ble_eq_true rfl⟩) hP hD hS hA [1, 3] (by decide) rfl rfl (WS' := (w_X11_height a0 q_ocean q_ocean_times q_ocean_depths q_text q_trees q_found q_images q_search q_stories q_signs q_calendar q_draft q_ocean_figures cA s_yearOfNow s_ocean_pace s_ocean_fade times_11 s_ocean_depths)) rfl 1 4 rfl rfl rfl hl.1 rfl (st' := [.int r_13]) rfl (Nat.le_of_ble_eq_true rfl) ⟨Nat.zero_le _, Nat.zero_le _⟩ dX11_height_38 (fun H locs hP hD hS => ?_)
    cases hf
    exact m_iret hx hb hr hlocks hP hS dX11_height_41
  have hf := pbr_t c_9 hf
  refine lv_iconst (v := (-1 : Int32)) hx hb dX11_height_21 (by decide) ?_
  cases hf
  exact m_iret hx hb hr hlocks hP hS dX11_height_22

/-! ===== OrphanWave.book(IIIII)I ===== -/
abbrev rm_X11_book : Room := { frames := 3, cells := 0, slots := 0, locals := 63 }
abbrev w_X11_book (a0 : Nat) (q_ocean : Nat) (q_ocean_depths : Nat) (q_found : Nat) (q_found_books : Nat) (q_found_books_cells : Nat) (q_found_books_froms : Nat) (q_found_books_tos : Nat) (q_found_books_lows : Nat) (q_found_books_highs : Nat) (q_text : Nat) (q_trees : Nat) (q_images : Nat) (q_search : Nat) (q_stories : Nat) (q_signs : Nat) (q_calendar : Nat) (q_draft : Nat) (q_ocean_figures : Nat) (q_ocean_times : Nat) (q_found_sheets : Nat) (q_found_known : Nat) (q_found_weights : Nat) (cA : Nat → ClassId) (s_yearOfNow : Int32) (s_ocean_pace : Int32) (s_ocean_fade : Int32) (s_ocean_depths : Nat → Int32) (s_found_dugMarshes : Int32) (s_found_kept : Int32) (s_found_books_count : Int32) (s_found_books_cells : Nat → Int32) (s_found_books_froms : Nat → Int32) (s_found_books_tos : Nat → Int32) (s_found_books_lows : Nat → Int32) (s_found_books_highs : Nat → Int32) : va_W := [(a0, .inr (11, [.ref q_text, .ref q_ocean, .ref q_trees, .ref q_found, .ref q_images, .ref q_search, .ref q_stories, .ref q_signs, .ref q_calendar, .ref q_draft, .int s_yearOfNow])), (q_ocean, .inr (4, [.ref q_ocean_depths, .ref q_ocean_figures, .ref q_ocean_times, .int s_ocean_pace, .int s_ocean_fade])), (q_ocean_depths, .inl (cA 1, 48, .inl s_ocean_depths)), (q_found, .inr (2, [.ref q_found_books, .ref q_found_sheets, .ref q_found_known, .ref q_found_weights, .int s_found_dugMarshes, .int s_found_kept])), (q_found_books, .inr (0, [.ref q_found_books_cells, .ref q_found_books_froms, .ref q_found_books_tos, .ref q_found_books_lows, .ref q_found_books_highs, .int s_found_books_count])), (q_found_books_cells, .inl (cA 1, 6, .inl s_found_books_cells)), (q_found_books_froms, .inl (cA 1, 6, .inl s_found_books_froms)), (q_found_books_tos, .inl (cA 1, 6, .inl s_found_books_tos)), (q_found_books_lows, .inl (cA 1, 6, .inl s_found_books_lows)), (q_found_books_highs, .inl (cA 1, 6, .inl s_found_books_highs))]
theorem hn_X11_book_X11 : ∀ w ∈ u_ws RX11 TX11 11, w ∈ wsX11_book := by decide +kernel
theorem hn_X11_book_X2 : ∀ w ∈ u_ws RX2 TX2 6, w ∈ wsX11_book := by decide +kernel
theorem hn_X11_book_X0 : ∀ w ∈ u_ws RX0 TX0 6, w ∈ wsX11_book := by decide +kernel
theorem hw_X11_book_f19 : Cond.fieldLink RX11 19 "OrphanWave" "ocean" "LOrphanWave$Ocean;" ∈ wsX11_book := by decide +kernel
theorem hw_X11_book_f33 : Cond.fieldLink RX11 33 "OrphanWave" "found" "LOrphanWave$Findings;" ∈ wsX11_book := by decide +kernel

def f_X11_book (x1 : Int32) (x2 : Int32) (x3 : Int32) (x4 : Int32) (x5 : Int32) (s_ocean_depths : Nat → Int32) (s_found_books_count : Int32) (s_found_books_cells : Nat → Int32) (s_found_books_froms : Nat → Int32) (s_found_books_tos : Nat → Int32) (s_found_books_lows : Nat → Int32) (s_found_books_highs : Nat → Int32) : Option ((Int32) × (Int32) × (Nat → Int32) × (Nat → Int32) × (Nat → Int32) × (Nat → Int32) × (Nat → Int32)) :=
  pcl (f_X4_isSea x1 s_ocean_depths) (fun r_1 => (
  pbr (r_1 = 0)
    (some ((-1 : Int32), s_found_books_count, s_found_books_cells, s_found_books_froms, s_found_books_tos, s_found_books_lows, s_found_books_highs))
    (pcl (f_X11_isSpan x2 x3 (-9999 : Int32) (9999 : Int32)) (fun r_4 => (
    pbr (r_4 = 0)
      (some ((-1 : Int32), s_found_books_count, s_found_books_cells, s_found_books_froms, s_found_books_tos, s_found_books_lows, s_found_books_highs))
      (pcl (f_X11_isSpan x4 x5 (0 : Int32) (999 : Int32)) (fun r_7 => (
      pbr (r_7 = 0)
        (some ((-1 : Int32), s_found_books_count, s_found_books_cells, s_found_books_froms, s_found_books_tos, s_found_books_lows, s_found_books_highs))
        (pbr (s_found_books_count < (6 : Int32))
          (pcl (f_X0_add x1 x2 x3 x4 x5 s_found_books_count s_found_books_cells s_found_books_froms s_found_books_tos s_found_books_lows s_found_books_highs) (fun (r_11, count_12, cells_13, froms_14, tos_15, lows_16, highs_17) => (
          some (r_11, count_12, cells_13, froms_14, tos_15, lows_16, highs_17))))
          (some ((-3 : Int32), s_found_books_count, s_found_books_cells, s_found_books_froms, s_found_books_tos, s_found_books_lows, s_found_books_highs)))))))))))

set_option maxRecDepth 100000 in
set_option maxHeartbeats 4000000 in
theorem ct_X11_book (l : Launch) (D : va_G) (cA : Nat → ClassId) (x1 : Int32) (x2 : Int32) (x3 : Int32) (x4 : Int32) (x5 : Int32) (a0 : Nat) (q_ocean : Nat) (q_ocean_depths : Nat) (q_found : Nat) (q_found_books : Nat) (q_found_books_cells : Nat) (q_found_books_froms : Nat) (q_found_books_tos : Nat) (q_found_books_lows : Nat) (q_found_books_highs : Nat) (q_text : Nat) (q_trees : Nat) (q_images : Nat) (q_search : Nat) (q_stories : Nat) (q_signs : Nat) (q_calendar : Nat) (q_draft : Nat) (q_ocean_figures : Nat) (q_ocean_times : Nat) (q_found_sheets : Nat) (q_found_known : Nat) (q_found_weights : Nat) (s_yearOfNow : Int32) (s_ocean_pace : Int32) (s_ocean_fade : Int32) (s_ocean_depths : Nat → Int32) (s_found_dugMarshes : Int32) (s_found_kept : Int32) (s_found_books_count : Int32) (s_found_books_cells : Nat → Int32) (s_found_books_froms : Nat → Int32) (s_found_books_tos : Nat → Int32) (s_found_books_lows : Nat → Int32) (s_found_books_highs : Nat → Int32) (o_r : Int32) (o_found_books_count : Int32) (o_found_books_cells : Nat → Int32) (o_found_books_froms : Nat → Int32) (o_found_books_tos : Nat → Int32) (o_found_books_lows : Nat → Int32) (o_found_books_highs : Nat → Int32) (hf : f_X11_book x1 x2 x3 x4 x5 s_ocean_depths s_found_books_count s_found_books_cells s_found_books_froms s_found_books_tos s_found_books_lows s_found_books_highs = some (o_r, o_found_books_count, o_found_books_cells, o_found_books_froms, o_found_books_tos, o_found_books_lows, o_found_books_highs)) : CT l yX11_book wsX11_book rm_X11_book D cA [.ref a0, .int x1, .int x2, .int x3, .int x4, .int x5] (w_X11_book a0 q_ocean q_ocean_depths q_found q_found_books q_found_books_cells q_found_books_froms q_found_books_tos q_found_books_lows q_found_books_highs q_text q_trees q_images q_search q_stories q_signs q_calendar q_draft q_ocean_figures q_ocean_times q_found_sheets q_found_known q_found_weights cA s_yearOfNow s_ocean_pace s_ocean_fade s_ocean_depths s_found_dugMarshes s_found_kept s_found_books_count s_found_books_cells s_found_books_froms s_found_books_tos s_found_books_lows s_found_books_highs) (w_X11_book a0 q_ocean q_ocean_depths q_found q_found_books q_found_books_cells q_found_books_froms q_found_books_tos q_found_books_lows q_found_books_highs q_text q_trees q_images q_search q_stories q_signs q_calendar q_draft q_ocean_figures q_ocean_times q_found_sheets q_found_known q_found_weights cA s_yearOfNow s_ocean_pace s_ocean_fade s_ocean_depths s_found_dugMarshes s_found_kept o_found_books_count o_found_books_cells o_found_books_froms o_found_books_tos o_found_books_lows o_found_books_highs) (some (.int o_r)) := by
  refine CT.ofW (cc := cX11_book) (maxL := 6) (ret := (some .int)) (by decide +kernel) rfl (Nat.le_of_ble_eq_true rfl) ?_
  intro p e s m below meth c A C0 hA hP hD ls hl
  have C0 : MX p s m [.ref a0, .int x1, .int x2, .int x3, .int x4, .int x5].toArray meth c cX11_book 6 wsX11_book RX11 (some .int) D cA := C0
  have hl : lv_has ls 6 [(0, .ref a0), (1, .int x1), (2, .int x2), (3, .int x3), (4, .int x4), (5, .int x5)] := hl
  obtain ⟨hx, hb, hml, hown, hts, hr, hlocks, hX⟩ := id C0
  have hK := hX.1
  have hN := hX.2
  have hS : va_S A s.heap s.heap [] := va_S.rf
  unfold f_X11_book at hf
  refine lv_aload_n hx hb dX11_book_0 rfl (lv_at hl 0 rfl) ?_
  refine va_get (D := D) (ci := 11) (v := .ref q_ocean) (C := RX11) (T := TX11) (N := 11) hx hb hts hn_X11_book_X11 hown hK hP 0 rfl rfl 1 (by decide) (hts _ hw_X11_book_f19) (fun _ h9 => h9) rfl dX11_book_1 ?_
  refine lv_iload_n hx hb dX11_book_4 rfl (lv_at hl 1 rfl) ?_
  obtain ⟨r_1, hc_2, hf⟩ := pcl_e hf
  refine m_callV (As := [.int x1]) (rest := []) ⟨hx, hb, hml, hown, hts⟩ hX (ct_X4_isSea l D cA x1 q_ocean q_ocean_depths q_ocean_figures q_ocean_times s_ocean_pace s_ocean_fade s_ocean_depths r_1 hc_2) (cwV 1 hts gX11_book_X4_isSea rfl rfl rfl (by decide +kernel) ⟨Nat.le_of_ble_eq_true rfl, Nat.le_of_ble_eq_true rfl⟩) hP hD hS hA [1, 2] (by decide) rfl rfl (WS' := (w_X11_book a0 q_ocean q_ocean_depths q_found q_found_books q_found_books_cells q_found_books_froms q_found_books_tos q_found_books_lows q_found_books_highs q_text q_trees q_images q_search q_stories q_signs q_calendar q_draft q_ocean_figures q_ocean_times q_found_sheets q_found_known q_found_weights cA s_yearOfNow s_ocean_pace s_ocean_fade s_ocean_depths s_found_dugMarshes s_found_kept s_found_books_count s_found_books_cells s_found_books_froms s_found_books_tos s_found_books_lows s_found_books_highs)) rfl 1 4 rfl rfl rfl hl.1 rfl (st' := [.int r_1]) rfl (Nat.le_of_ble_eq_true rfl) ⟨Nat.zero_le _, Nat.zero_le _⟩ dX11_book_5 (fun H locs hP hD hS => ?_)
  refine lv_if_ne (tgt := 13) hx hb dX11_book_8 (by decide) (fun c_3 => ?_) (fun c_3 => ?_)
  · have hf := pbr_f c_3 hf
    refine lv_iload_n hx hb dX11_book_13 rfl (lv_at hl 2 rfl) ?_
    refine lv_iload_n hx hb dX11_book_14 rfl (lv_at hl 3 rfl) ?_
    refine lv_sipush (v := (-9999 : Int32)) hx hb dX11_book_15 (by decide) ?_
    refine lv_sipush (v := (9999 : Int32)) hx hb dX11_book_18 (by decide) ?_
    obtain ⟨r_4, hc_5, hf⟩ := pcl_e hf
    refine m_callS (As := [.int x2, .int x3, .int (-9999 : Int32), .int (9999 : Int32)]) (rest := []) ⟨hx, hb, hml, hown, hts⟩ hX (ct_X11_isSpan l D cA x2 x3 (-9999 : Int32) (9999 : Int32) r_4 hc_5) (va_cwS 4 hts gX11_book_X11_isSpan rfl rfl rfl (by decide +kernel) ⟨Nat.le_of_ble_eq_true rfl, Nat.le_of_ble_eq_true rfl⟩) hP hD hS hA [] (by decide) rfl rfl (WS' := (w_X11_book a0 q_ocean q_ocean_depths q_found q_found_books q_found_books_cells q_found_books_froms q_found_books_tos q_found_books_lows q_found_books_highs q_text q_trees q_images q_search q_stories q_signs q_calendar q_draft q_ocean_figures q_ocean_times q_found_sheets q_found_known q_found_weights cA s_yearOfNow s_ocean_pace s_ocean_fade s_ocean_depths s_found_dugMarshes s_found_kept s_found_books_count s_found_books_cells s_found_books_froms s_found_books_tos s_found_books_lows s_found_books_highs)) rfl rfl hl.1 rfl (st' := [.int r_4]) rfl (Nat.le_of_ble_eq_true rfl) ⟨Nat.zero_le _, Nat.zero_le _⟩ dX11_book_21 (fun H locs hP hD hS => ?_)
    refine lv_if_ne (tgt := 29) hx hb dX11_book_24 (by decide) (fun c_6 => ?_) (fun c_6 => ?_)
    · have hf := pbr_f c_6 hf
      refine lv_iload hx hb dX11_book_29 (lv_at hl 4 rfl) ?_
      refine lv_iload hx hb dX11_book_31 (lv_at hl 5 rfl) ?_
      refine lv_iconst (v := (0 : Int32)) hx hb dX11_book_33 (by decide) ?_
      refine lv_sipush (v := (999 : Int32)) hx hb dX11_book_34 (by decide) ?_
      obtain ⟨r_7, hc_8, hf⟩ := pcl_e hf
      refine m_callS (As := [.int x4, .int x5, .int (0 : Int32), .int (999 : Int32)]) (rest := []) ⟨hx, hb, hml, hown, hts⟩ hX (ct_X11_isSpan l D cA x4 x5 (0 : Int32) (999 : Int32) r_7 hc_8) (va_cwS 4 hts gX11_book_X11_isSpan rfl rfl rfl (by decide +kernel) ⟨Nat.le_of_ble_eq_true rfl, Nat.le_of_ble_eq_true rfl⟩) hP hD hS hA [] (by decide) rfl rfl (WS' := (w_X11_book a0 q_ocean q_ocean_depths q_found q_found_books q_found_books_cells q_found_books_froms q_found_books_tos q_found_books_lows q_found_books_highs q_text q_trees q_images q_search q_stories q_signs q_calendar q_draft q_ocean_figures q_ocean_times q_found_sheets q_found_known q_found_weights cA s_yearOfNow s_ocean_pace s_ocean_fade s_ocean_depths s_found_dugMarshes s_found_kept s_found_books_count s_found_books_cells s_found_books_froms s_found_books_tos s_found_books_lows s_found_books_highs)) rfl rfl hl.1 rfl (st' := [.int r_7]) rfl (Nat.le_of_ble_eq_true rfl) ⟨Nat.zero_le _, Nat.zero_le _⟩ dX11_book_37 (fun H locs hP hD hS => ?_)
      refine lv_if_ne (tgt := 45) hx hb dX11_book_40 (by decide) (fun c_9 => ?_) (fun c_9 => ?_)
      · have hf := pbr_f c_9 hf
        refine lv_aload_n hx hb dX11_book_45 rfl (lv_at hl 0 rfl) ?_
        refine va_get (D := D) (ci := 11) (v := .ref q_found) (C := RX11) (T := TX11) (N := 11) hx hb hts hn_X11_book_X11 hown hK hP 0 rfl rfl 3 (by decide) (hts _ hw_X11_book_f33) (fun _ h9 => h9) rfl dX11_book_46 ?_
        refine va_getN (D := D) (ci := 2) (v := .ref q_found_books) (C := RX2) (T := TX2) (N := 6) hx hb hts hn_X11_book_X2 hown hK hP 3 rfl rfl 0 (by decide) (va_Nw.use rfl (hN _ nw_X11_43)) (fun _ h9 => h9) rfl dX11_book_49 ?_
        refine va_getN (D := D) (ci := 0) (v := .int s_found_books_count) (C := RX0) (T := TX0) (N := 6) hx hb hts hn_X11_book_X0 hown hK hP 4 rfl rfl 5 (by decide) (va_Nw.use rfl (hN _ nw_X11_141)) (fun _ h9 => h9) rfl dX11_book_52 ?_
        refine lv_bipush (v := (6 : Int32)) hx hb dX11_book_55 (by decide) ?_
        refine lv_icmp_lt (tgt := 63) hx hb dX11_book_57 (by decide) (fun c_10 => ?_) (fun c_10 => ?_)
        · have hf := pbr_t c_10 hf
          refine lv_aload_n hx hb dX11_book_63 rfl (lv_at hl 0 rfl) ?_
          refine va_get (D := D) (ci := 11) (v := .ref q_found) (C := RX11) (T := TX11) (N := 11) hx hb hts hn_X11_book_X11 hown hK hP 0 rfl rfl 3 (by decide) (hts _ hw_X11_book_f33) (fun _ h9 => h9) rfl dX11_book_64 ?_
          refine va_getN (D := D) (ci := 2) (v := .ref q_found_books) (C := RX2) (T := TX2) (N := 6) hx hb hts hn_X11_book_X2 hown hK hP 3 rfl rfl 0 (by decide) (va_Nw.use rfl (hN _ nw_X11_43)) (fun _ h9 => h9) rfl dX11_book_67 ?_
          refine lv_iload_n hx hb dX11_book_70 rfl (lv_at hl 1 rfl) ?_
          refine lv_iload_n hx hb dX11_book_71 rfl (lv_at hl 2 rfl) ?_
          refine lv_iload_n hx hb dX11_book_72 rfl (lv_at hl 3 rfl) ?_
          refine lv_iload hx hb dX11_book_73 (lv_at hl 4 rfl) ?_
          refine lv_iload hx hb dX11_book_75 (lv_at hl 5 rfl) ?_
          obtain ⟨⟨r_11, count_12, cells_13, froms_14, tos_15, lows_16, highs_17⟩, hc_18, hf⟩ := pcl_e hf
          refine m_callV (As := [.int x1, .int x2, .int x3, .int x4, .int x5]) (rest := []) ⟨hx, hb, hml, hown, hts⟩ hX (ct_X0_add l D cA x1 x2 x3 x4 x5 q_found_books q_found_books_cells q_found_books_froms q_found_books_tos q_found_books_lows q_found_books_highs s_found_books_count s_found_books_cells s_found_books_froms s_found_books_tos s_found_books_lows s_found_books_highs r_11 count_12 cells_13 froms_14 tos_15 lows_16 highs_17 hc_18) (cwV 5 hts gX11_book_X0_add rfl rfl rfl (by decide +kernel) ⟨Nat.le_of_ble_eq_true rfl, Nat.le_of_ble_eq_true rfl⟩) hP hD hS hA [4, 5, 6, 7, 8, 9] (by decide) rfl rfl (WS' := (w_X11_book a0 q_ocean q_ocean_depths q_found q_found_books q_found_books_cells q_found_books_froms q_found_books_tos q_found_books_lows q_found_books_highs q_text q_trees q_images q_search q_stories q_signs q_calendar q_draft q_ocean_figures q_ocean_times q_found_sheets q_found_known q_found_weights cA s_yearOfNow s_ocean_pace s_ocean_fade s_ocean_depths s_found_dugMarshes s_found_kept count_12 cells_13 froms_14 tos_15 lows_16 highs_17)) rfl 4 0 rfl rfl rfl hl.1 rfl (st' := [.int r_11]) rfl (Nat.le_of_ble_eq_true rfl) ⟨Nat.zero_le _, Nat.zero_le _⟩ dX11_book_77 (fun H locs hP hD hS => ?_)
          cases hf
          exact m_iret hx hb hr hlocks hP hS dX11_book_80
        have hf := pbr_f c_10 hf
        refine lv_bipush (v := (-3 : Int32)) hx hb dX11_book_60 (by decide) ?_
        cases hf
        exact m_iret hx hb hr hlocks hP hS dX11_book_62
      have hf := pbr_t c_9 hf
      refine lv_iconst (v := (-1 : Int32)) hx hb dX11_book_43 (by decide) ?_
      cases hf
      exact m_iret hx hb hr hlocks hP hS dX11_book_44
    have hf := pbr_t c_6 hf
    refine lv_iconst (v := (-1 : Int32)) hx hb dX11_book_27 (by decide) ?_
    cases hf
    exact m_iret hx hb hr hlocks hP hS dX11_book_28
  have hf := pbr_t c_3 hf
  refine lv_iconst (v := (-1 : Int32)) hx hb dX11_book_11 (by decide) ?_
  cases hf
  exact m_iret hx hb hr hlocks hP hS dX11_book_12

/-! ===== OrphanWave.begins(II)I ===== -/
abbrev rm_X11_begins : Room := { frames := 4, cells := 0, slots := 0, locals := 93 }
abbrev wx_X11_begins (a0 : Nat) (q_ocean : Nat) (q_ocean_depths : Nat) (q_found : Nat) (q_found_books : Nat) (q_search : Nat) (q_found_books_cells : Nat) (q_found_books_lows : Nat) (q_found_books_highs : Nat) (q_found_books_tos : Nat) (q_found_books_froms : Nat) (q_search_times : Nat) (q_text : Nat) (q_trees : Nat) (q_images : Nat) (q_stories : Nat) (q_signs : Nat) (q_calendar : Nat) (q_draft : Nat) (q_ocean_figures : Nat) (q_ocean_times : Nat) (q_found_sheets : Nat) (q_found_known : Nat) (q_found_weights : Nat) (r_search_times : Nat → Nat) (cA : Nat → ClassId) (s_yearOfNow : Int32) (s_ocean_pace : Int32) (s_ocean_fade : Int32) (s_ocean_depths : Nat → Int32) (s_found_dugMarshes : Int32) (s_found_kept : Int32) (s_found_books_count : Int32) (s_found_books_cells : Nat → Int32) (s_found_books_lows : Nat → Int32) (s_found_books_highs : Nat → Int32) (s_found_books_tos : Nat → Int32) (s_found_books_froms : Nat → Int32) (s_search_times : Nat → Nat → Int32) : va_W := [(a0, .inr (11, [.ref q_text, .ref q_ocean, .ref q_trees, .ref q_found, .ref q_images, .ref q_search, .ref q_stories, .ref q_signs, .ref q_calendar, .ref q_draft, .int s_yearOfNow])), (q_ocean, .inr (4, [.ref q_ocean_depths, .ref q_ocean_figures, .ref q_ocean_times, .int s_ocean_pace, .int s_ocean_fade])), (q_ocean_depths, .inl (cA 1, 48, .inl s_ocean_depths)), (q_found, .inr (2, [.ref q_found_books, .ref q_found_sheets, .ref q_found_known, .ref q_found_weights, .int s_found_dugMarshes, .int s_found_kept])), (q_found_books, .inr (0, [.ref q_found_books_cells, .ref q_found_books_froms, .ref q_found_books_tos, .ref q_found_books_lows, .ref q_found_books_highs, .int s_found_books_count])), (q_search, .inr (5, [.ref q_ocean, .ref q_found_books, .ref q_search_times])), (q_found_books_cells, .inl (cA 1, 6, .inl s_found_books_cells)), (q_found_books_lows, .inl (cA 1, 6, .inl s_found_books_lows)), (q_found_books_highs, .inl (cA 1, 6, .inl s_found_books_highs)), (q_found_books_tos, .inl (cA 1, 6, .inl s_found_books_tos)), (q_found_books_froms, .inl (cA 1, 6, .inl s_found_books_froms)), (q_search_times, .inl (cA 5, 6, .inr (.inr (.inr (.inr (gro 6 r_search_times))))))]
abbrev w_X11_begins (a0 : Nat) (q_ocean : Nat) (q_ocean_depths : Nat) (q_found : Nat) (q_found_books : Nat) (q_search : Nat) (q_found_books_cells : Nat) (q_found_books_lows : Nat) (q_found_books_highs : Nat) (q_found_books_tos : Nat) (q_found_books_froms : Nat) (q_search_times : Nat) (q_text : Nat) (q_trees : Nat) (q_images : Nat) (q_stories : Nat) (q_signs : Nat) (q_calendar : Nat) (q_draft : Nat) (q_ocean_figures : Nat) (q_ocean_times : Nat) (q_found_sheets : Nat) (q_found_known : Nat) (q_found_weights : Nat) (r_search_times : Nat → Nat) (cA : Nat → ClassId) (s_yearOfNow : Int32) (s_ocean_pace : Int32) (s_ocean_fade : Int32) (s_ocean_depths : Nat → Int32) (s_found_dugMarshes : Int32) (s_found_kept : Int32) (s_found_books_count : Int32) (s_found_books_cells : Nat → Int32) (s_found_books_lows : Nat → Int32) (s_found_books_highs : Nat → Int32) (s_found_books_tos : Nat → Int32) (s_found_books_froms : Nat → Int32) (s_search_times : Nat → Nat → Int32) : va_W := [(a0, .inr (11, [.ref q_text, .ref q_ocean, .ref q_trees, .ref q_found, .ref q_images, .ref q_search, .ref q_stories, .ref q_signs, .ref q_calendar, .ref q_draft, .int s_yearOfNow])), (q_ocean, .inr (4, [.ref q_ocean_depths, .ref q_ocean_figures, .ref q_ocean_times, .int s_ocean_pace, .int s_ocean_fade])), (q_ocean_depths, .inl (cA 1, 48, .inl s_ocean_depths)), (q_found, .inr (2, [.ref q_found_books, .ref q_found_sheets, .ref q_found_known, .ref q_found_weights, .int s_found_dugMarshes, .int s_found_kept])), (q_found_books, .inr (0, [.ref q_found_books_cells, .ref q_found_books_froms, .ref q_found_books_tos, .ref q_found_books_lows, .ref q_found_books_highs, .int s_found_books_count])), (q_search, .inr (5, [.ref q_ocean, .ref q_found_books, .ref q_search_times])), (q_found_books_cells, .inl (cA 1, 6, .inl s_found_books_cells)), (q_found_books_lows, .inl (cA 1, 6, .inl s_found_books_lows)), (q_found_books_highs, .inl (cA 1, 6, .inl s_found_books_highs)), (q_found_books_tos, .inl (cA 1, 6, .inl s_found_books_tos)), (q_found_books_froms, .inl (cA 1, 6, .inl s_found_books_froms)), (q_search_times, .inl (cA 5, 6, .inr (.inr (.inr (.inr (gro 6 r_search_times))))))] ++ grw 6 r_search_times (cA 1) 48 s_search_times
theorem hn_X11_begins_X11 : ∀ w ∈ u_ws RX11 TX11 11, w ∈ wsX11_begins := by decide +kernel
theorem hn_X11_begins_X2 : ∀ w ∈ u_ws RX2 TX2 6, w ∈ wsX11_begins := by decide +kernel
theorem hn_X11_begins_X0 : ∀ w ∈ u_ws RX0 TX0 6, w ∈ wsX11_begins := by decide +kernel
theorem hw_X11_begins_f19 : Cond.fieldLink RX11 19 "OrphanWave" "ocean" "LOrphanWave$Ocean;" ∈ wsX11_begins := by decide +kernel
theorem hw_X11_begins_f33 : Cond.fieldLink RX11 33 "OrphanWave" "found" "LOrphanWave$Findings;" ∈ wsX11_begins := by decide +kernel
theorem hw_X11_begins_f50 : Cond.fieldLink RX11 50 "OrphanWave" "search" "LOrphanWave$Search;" ∈ wsX11_begins := by decide +kernel

def f_X11_begins (x1 : Int32) (x2 : Int32) (s_ocean_pace : Int32) (s_ocean_fade : Int32) (s_ocean_depths : Nat → Int32) (s_found_books_count : Int32) (s_found_books_cells : Nat → Int32) (s_found_books_lows : Nat → Int32) (s_found_books_highs : Nat → Int32) (s_found_books_tos : Nat → Int32) (s_found_books_froms : Nat → Int32) (s_search_times : Nat → Nat → Int32) : Option ((Int32) × (Nat → Nat → Int32)) :=
  pcl (f_X4_isSea x1 s_ocean_depths) (fun r_1 => (
  pbr (r_1 = 0)
    (some ((-1 : Int32), s_search_times))
    (pcl (f_X11_isSize x2) (fun r_4 => (
    pbr (r_4 = 0)
      (some ((-1 : Int32), s_search_times))
      (pbr (s_found_books_count = 0)
        (some ((-9 : Int32), s_search_times))
        (pcl (f_X5_measure s_found_books_count s_found_books_cells s_ocean_pace s_ocean_depths s_search_times) (fun times_8 => (
        pcl (f_X5_beginsOf x1 x2 s_found_books_count s_ocean_fade s_found_books_cells s_ocean_depths s_found_books_lows s_found_books_highs s_found_books_tos s_found_books_froms times_8) (fun r_10 => (
        some (r_10, times_8))))))))))))

set_option maxRecDepth 100000 in
set_option maxHeartbeats 4000000 in
theorem ct_X11_begins (l : Launch) (D : va_G) (cA : Nat → ClassId) (x1 : Int32) (x2 : Int32) (a0 : Nat) (q_ocean : Nat) (q_ocean_depths : Nat) (q_found : Nat) (q_found_books : Nat) (q_search : Nat) (q_found_books_cells : Nat) (q_found_books_lows : Nat) (q_found_books_highs : Nat) (q_found_books_tos : Nat) (q_found_books_froms : Nat) (q_search_times : Nat) (q_text : Nat) (q_trees : Nat) (q_images : Nat) (q_stories : Nat) (q_signs : Nat) (q_calendar : Nat) (q_draft : Nat) (q_ocean_figures : Nat) (q_ocean_times : Nat) (q_found_sheets : Nat) (q_found_known : Nat) (q_found_weights : Nat) (r_search_times : Nat → Nat) (s_yearOfNow : Int32) (s_ocean_pace : Int32) (s_ocean_fade : Int32) (s_ocean_depths : Nat → Int32) (s_found_dugMarshes : Int32) (s_found_kept : Int32) (s_found_books_count : Int32) (s_found_books_cells : Nat → Int32) (s_found_books_lows : Nat → Int32) (s_found_books_highs : Nat → Int32) (s_found_books_tos : Nat → Int32) (s_found_books_froms : Nat → Int32) (s_search_times : Nat → Nat → Int32) (o_r : Int32) (o_search_times : Nat → Nat → Int32) (hf : f_X11_begins x1 x2 s_ocean_pace s_ocean_fade s_ocean_depths s_found_books_count s_found_books_cells s_found_books_lows s_found_books_highs s_found_books_tos s_found_books_froms s_search_times = some (o_r, o_search_times)) : CT l yX11_begins wsX11_begins rm_X11_begins D cA [.ref a0, .int x1, .int x2] (w_X11_begins a0 q_ocean q_ocean_depths q_found q_found_books q_search q_found_books_cells q_found_books_lows q_found_books_highs q_found_books_tos q_found_books_froms q_search_times q_text q_trees q_images q_stories q_signs q_calendar q_draft q_ocean_figures q_ocean_times q_found_sheets q_found_known q_found_weights r_search_times cA s_yearOfNow s_ocean_pace s_ocean_fade s_ocean_depths s_found_dugMarshes s_found_kept s_found_books_count s_found_books_cells s_found_books_lows s_found_books_highs s_found_books_tos s_found_books_froms s_search_times) (w_X11_begins a0 q_ocean q_ocean_depths q_found q_found_books q_search q_found_books_cells q_found_books_lows q_found_books_highs q_found_books_tos q_found_books_froms q_search_times q_text q_trees q_images q_stories q_signs q_calendar q_draft q_ocean_figures q_ocean_times q_found_sheets q_found_known q_found_weights r_search_times cA s_yearOfNow s_ocean_pace s_ocean_fade s_ocean_depths s_found_dugMarshes s_found_kept s_found_books_count s_found_books_cells s_found_books_lows s_found_books_highs s_found_books_tos s_found_books_froms o_search_times) (some (.int o_r)) := by
  refine CT.ofW (cc := cX11_begins) (maxL := 3) (ret := (some .int)) (by decide +kernel) rfl (Nat.le_of_ble_eq_true rfl) ?_
  intro p e s m below meth c A C0 hA hP hD ls hl
  have C0 : MX p s m [.ref a0, .int x1, .int x2].toArray meth c cX11_begins 3 wsX11_begins RX11 (some .int) D cA := C0
  have hl : lv_has ls 3 [(0, .ref a0), (1, .int x1), (2, .int x2)] := hl
  obtain ⟨hx, hb, hml, hown, hts, hr, hlocks, hX⟩ := id C0
  have hK := hX.1
  have hN := hX.2
  have hS : va_S A s.heap s.heap [] := va_S.rf
  unfold f_X11_begins at hf
  refine lv_aload_n hx hb dX11_begins_0 rfl (lv_at hl 0 rfl) ?_
  refine va_get (D := D) (ci := 11) (v := .ref q_ocean) (C := RX11) (T := TX11) (N := 11) hx hb hts hn_X11_begins_X11 hown hK hP 0 rfl rfl 1 (by decide) (hts _ hw_X11_begins_f19) (fun _ h9 => h9) rfl dX11_begins_1 ?_
  refine lv_iload_n hx hb dX11_begins_4 rfl (lv_at hl 1 rfl) ?_
  obtain ⟨r_1, hc_2, hf⟩ := pcl_e hf
  refine m_callV (As := [.int x1]) (rest := []) ⟨hx, hb, hml, hown, hts⟩ hX (ct_X4_isSea l D cA x1 q_ocean q_ocean_depths q_ocean_figures q_ocean_times s_ocean_pace s_ocean_fade s_ocean_depths r_1 hc_2) (cwV 1 hts gX11_begins_X4_isSea rfl rfl rfl (by decide +kernel) ⟨Nat.le_of_ble_eq_true rfl, Nat.le_of_ble_eq_true rfl⟩) hP hD hS hA [1, 2] (by decide) rfl rfl (WS' := (w_X11_begins a0 q_ocean q_ocean_depths q_found q_found_books q_search q_found_books_cells q_found_books_lows q_found_books_highs q_found_books_tos q_found_books_froms q_search_times q_text q_trees q_images q_stories q_signs q_calendar q_draft q_ocean_figures q_ocean_times q_found_sheets q_found_known q_found_weights r_search_times cA s_yearOfNow s_ocean_pace s_ocean_fade s_ocean_depths s_found_dugMarshes s_found_kept s_found_books_count s_found_books_cells s_found_books_lows s_found_books_highs s_found_books_tos s_found_books_froms s_search_times)) rfl 1 4 rfl rfl rfl hl.1 rfl (st' := [.int r_1]) rfl (Nat.le_of_ble_eq_true rfl) ⟨Nat.zero_le _, Nat.zero_le _⟩ dX11_begins_5 (fun H locs hP hD hS => ?_)
  refine lv_if_eq (tgt := 18) hx hb dX11_begins_8 (by decide) (fun c_3 => ?_) (fun c_3 => ?_)
  · have hf := pbr_t c_3 hf
    refine lv_iconst (v := (-1 : Int32)) hx hb dX11_begins_18 (by decide) ?_
    cases hf
    exact m_iret hx hb hr hlocks hP hS dX11_begins_19
  have hf := pbr_f c_3 hf
  refine lv_iload_n hx hb dX11_begins_11 rfl (lv_at hl 2 rfl) ?_
  obtain ⟨r_4, hc_5, hf⟩ := pcl_e hf
  refine m_callS (As := [.int x2]) (rest := []) ⟨hx, hb, hml, hown, hts⟩ hX (ct_X11_isSize l D cA x2 r_4 hc_5) (va_cwS 1 hts gX11_begins_X11_isSize rfl rfl rfl (by decide +kernel) ⟨Nat.le_of_ble_eq_true rfl, Nat.le_of_ble_eq_true rfl⟩) hP hD hS hA [] (by decide) rfl rfl (WS' := (w_X11_begins a0 q_ocean q_ocean_depths q_found q_found_books q_search q_found_books_cells q_found_books_lows q_found_books_highs q_found_books_tos q_found_books_froms q_search_times q_text q_trees q_images q_stories q_signs q_calendar q_draft q_ocean_figures q_ocean_times q_found_sheets q_found_known q_found_weights r_search_times cA s_yearOfNow s_ocean_pace s_ocean_fade s_ocean_depths s_found_dugMarshes s_found_kept s_found_books_count s_found_books_cells s_found_books_lows s_found_books_highs s_found_books_tos s_found_books_froms s_search_times)) rfl rfl hl.1 rfl (st' := [.int r_4]) rfl (Nat.le_of_ble_eq_true rfl) ⟨Nat.zero_le _, Nat.zero_le _⟩ dX11_begins_12 (fun H locs hP hD hS => ?_)
  refine lv_if_ne (tgt := 20) hx hb dX11_begins_15 (by decide) (fun c_6 => ?_) (fun c_6 => ?_)
  · have hf := pbr_f c_6 hf
    refine lv_aload_n hx hb dX11_begins_20 rfl (lv_at hl 0 rfl) ?_
    refine va_get (D := D) (ci := 11) (v := .ref q_found) (C := RX11) (T := TX11) (N := 11) hx hb hts hn_X11_begins_X11 hown hK hP 0 rfl rfl 3 (by decide) (hts _ hw_X11_begins_f33) (fun _ h9 => h9) rfl dX11_begins_21 ?_
    refine va_getN (D := D) (ci := 2) (v := .ref q_found_books) (C := RX2) (T := TX2) (N := 6) hx hb hts hn_X11_begins_X2 hown hK hP 3 rfl rfl 0 (by decide) (va_Nw.use rfl (hN _ nw_X11_43)) (fun _ h9 => h9) rfl dX11_begins_24 ?_
    refine va_getN (D := D) (ci := 0) (v := .int s_found_books_count) (C := RX0) (T := TX0) (N := 6) hx hb hts hn_X11_begins_X0 hown hK hP 4 rfl rfl 5 (by decide) (va_Nw.use rfl (hN _ nw_X11_141)) (fun _ h9 => h9) rfl dX11_begins_27 ?_
    refine lv_if_ne (tgt := 36) hx hb dX11_begins_30 (by decide) (fun c_7 => ?_) (fun c_7 => ?_)
    · have hf := pbr_f c_7 hf
      refine lv_aload_n hx hb dX11_begins_36 rfl (lv_at hl 0 rfl) ?_
      refine va_get (D := D) (ci := 11) (v := .ref q_search) (C := RX11) (T := TX11) (N := 11) hx hb hts hn_X11_begins_X11 hown hK hP 0 rfl rfl 5 (by decide) (hts _ hw_X11_begins_f50) (fun _ h9 => h9) rfl dX11_begins_37 ?_
      obtain ⟨times_8, hc_9, hf⟩ := pcl_e hf
      refine m_callV (As := []) (rest := []) ⟨hx, hb, hml, hown, hts⟩ hX (ct_X5_measure l D cA q_search q_found_books q_found_books_cells q_ocean q_ocean_depths q_search_times q_found_books_froms q_found_books_tos q_found_books_lows q_found_books_highs q_ocean_figures q_ocean_times r_search_times s_found_books_count s_found_books_cells s_ocean_pace s_ocean_fade s_ocean_depths s_search_times times_8 hc_9) (cwV 0 hts gX11_begins_X5_measure rfl rfl rfl (by decide +kernel) ⟨Nat.le_of_ble_eq_true rfl, Nat.le_of_ble_eq_true rfl⟩) hP hD hS hA [5, 4, 6, 1, 2, 11, 12, 13, 14, 15, 16, 17] (by decide) rfl rfl (WS' := (w_X11_begins a0 q_ocean q_ocean_depths q_found q_found_books q_search q_found_books_cells q_found_books_lows q_found_books_highs q_found_books_tos q_found_books_froms q_search_times q_text q_trees q_images q_stories q_signs q_calendar q_draft q_ocean_figures q_ocean_times q_found_sheets q_found_known q_found_weights r_search_times cA s_yearOfNow s_ocean_pace s_ocean_fade s_ocean_depths s_found_dugMarshes s_found_kept s_found_books_count s_found_books_cells s_found_books_lows s_found_books_highs s_found_books_tos s_found_books_froms times_8)) rfl 5 5 rfl rfl rfl hl.1 rfl (st' := []) rfl (Nat.le_of_ble_eq_true rfl) ⟨Nat.zero_le _, Nat.zero_le _⟩ dX11_begins_40 (fun H locs hP hD hS => ?_)
      refine lv_aload_n hx hb dX11_begins_43 rfl (lv_at hl 0 rfl) ?_
      refine va_get (D := D) (ci := 11) (v := .ref q_search) (C := RX11) (T := TX11) (N := 11) hx hb hts hn_X11_begins_X11 hown hK hP 0 rfl rfl 5 (by decide) (hts _ hw_X11_begins_f50) (fun _ h9 => h9) rfl dX11_begins_44 ?_
      refine lv_iload_n hx hb dX11_begins_47 rfl (lv_at hl 1 rfl) ?_
      refine lv_iload_n hx hb dX11_begins_48 rfl (lv_at hl 2 rfl) ?_
      obtain ⟨r_10, hc_11, hf⟩ := pcl_e hf
      refine m_callV (As := [.int x1, .int x2]) (rest := []) ⟨hx, hb, hml, hown, hts⟩ hX (ct_X5_beginsOf l D cA x1 x2 q_search q_found_books q_ocean q_found_books_cells q_ocean_depths q_found_books_lows q_found_books_highs q_found_books_tos q_found_books_froms q_search_times q_ocean_figures q_ocean_times r_search_times s_found_books_count s_ocean_pace s_ocean_fade s_found_books_cells s_ocean_depths s_found_books_lows s_found_books_highs s_found_books_tos s_found_books_froms times_8 r_10 hc_11) (cwV 2 hts gX11_begins_X5_beginsOf rfl rfl rfl (by decide +kernel) ⟨Nat.le_of_ble_eq_true rfl, Nat.le_of_ble_eq_true rfl⟩) hP hD hS hA [5, 4, 1, 6, 2, 7, 8, 9, 10, 11, 12, 13, 14, 15, 16, 17] (by decide) rfl rfl (WS' := (w_X11_begins a0 q_ocean q_ocean_depths q_found q_found_books q_search q_found_books_cells q_found_books_lows q_found_books_highs q_found_books_tos q_found_books_froms q_search_times q_text q_trees q_images q_stories q_signs q_calendar q_draft q_ocean_figures q_ocean_times q_found_sheets q_found_known q_found_weights r_search_times cA s_yearOfNow s_ocean_pace s_ocean_fade s_ocean_depths s_found_dugMarshes s_found_kept s_found_books_count s_found_books_cells s_found_books_lows s_found_books_highs s_found_books_tos s_found_books_froms times_8)) rfl 5 5 rfl rfl rfl hl.1 rfl (st' := [.int r_10]) rfl (Nat.le_of_ble_eq_true rfl) ⟨Nat.zero_le _, Nat.zero_le _⟩ dX11_begins_49 (fun H locs hP hD hS => ?_)
      cases hf
      exact m_iret hx hb hr hlocks hP hS dX11_begins_52
    have hf := pbr_t c_7 hf
    refine lv_bipush (v := (-9 : Int32)) hx hb dX11_begins_33 (by decide) ?_
    cases hf
    exact m_iret hx hb hr hlocks hP hS dX11_begins_35
  have hf := pbr_t c_6 hf
  refine lv_iconst (v := (-1 : Int32)) hx hb dX11_begins_18 (by decide) ?_
  cases hf
  exact m_iret hx hb hr hlocks hP hS dX11_begins_19

/-! ===== OrphanWave.ways(I)I ===== -/
abbrev rm_X11_ways : Room := { frames := 5, cells := 0, slots := 0, locals := 103 }
abbrev wx_X11_ways (a0 : Nat) (q_ocean : Nat) (q_ocean_depths : Nat) (q_found : Nat) (q_found_books : Nat) (q_search : Nat) (q_found_books_cells : Nat) (q_found_books_tos : Nat) (q_found_books_froms : Nat) (q_found_books_lows : Nat) (q_found_books_highs : Nat) (q_search_times : Nat) (q_text : Nat) (q_trees : Nat) (q_images : Nat) (q_stories : Nat) (q_signs : Nat) (q_calendar : Nat) (q_draft : Nat) (q_ocean_figures : Nat) (q_ocean_times : Nat) (q_found_sheets : Nat) (q_found_known : Nat) (q_found_weights : Nat) (r_search_times : Nat → Nat) (cA : Nat → ClassId) (s_yearOfNow : Int32) (s_ocean_pace : Int32) (s_ocean_fade : Int32) (s_ocean_depths : Nat → Int32) (s_found_dugMarshes : Int32) (s_found_kept : Int32) (s_found_books_count : Int32) (s_found_books_cells : Nat → Int32) (s_found_books_tos : Nat → Int32) (s_found_books_froms : Nat → Int32) (s_found_books_lows : Nat → Int32) (s_found_books_highs : Nat → Int32) (s_search_times : Nat → Nat → Int32) : va_W := [(a0, .inr (11, [.ref q_text, .ref q_ocean, .ref q_trees, .ref q_found, .ref q_images, .ref q_search, .ref q_stories, .ref q_signs, .ref q_calendar, .ref q_draft, .int s_yearOfNow])), (q_ocean, .inr (4, [.ref q_ocean_depths, .ref q_ocean_figures, .ref q_ocean_times, .int s_ocean_pace, .int s_ocean_fade])), (q_ocean_depths, .inl (cA 1, 48, .inl s_ocean_depths)), (q_found, .inr (2, [.ref q_found_books, .ref q_found_sheets, .ref q_found_known, .ref q_found_weights, .int s_found_dugMarshes, .int s_found_kept])), (q_found_books, .inr (0, [.ref q_found_books_cells, .ref q_found_books_froms, .ref q_found_books_tos, .ref q_found_books_lows, .ref q_found_books_highs, .int s_found_books_count])), (q_search, .inr (5, [.ref q_ocean, .ref q_found_books, .ref q_search_times])), (q_found_books_cells, .inl (cA 1, 6, .inl s_found_books_cells)), (q_found_books_tos, .inl (cA 1, 6, .inl s_found_books_tos)), (q_found_books_froms, .inl (cA 1, 6, .inl s_found_books_froms)), (q_found_books_lows, .inl (cA 1, 6, .inl s_found_books_lows)), (q_found_books_highs, .inl (cA 1, 6, .inl s_found_books_highs)), (q_search_times, .inl (cA 5, 6, .inr (.inr (.inr (.inr (gro 6 r_search_times))))))]
abbrev w_X11_ways (a0 : Nat) (q_ocean : Nat) (q_ocean_depths : Nat) (q_found : Nat) (q_found_books : Nat) (q_search : Nat) (q_found_books_cells : Nat) (q_found_books_tos : Nat) (q_found_books_froms : Nat) (q_found_books_lows : Nat) (q_found_books_highs : Nat) (q_search_times : Nat) (q_text : Nat) (q_trees : Nat) (q_images : Nat) (q_stories : Nat) (q_signs : Nat) (q_calendar : Nat) (q_draft : Nat) (q_ocean_figures : Nat) (q_ocean_times : Nat) (q_found_sheets : Nat) (q_found_known : Nat) (q_found_weights : Nat) (r_search_times : Nat → Nat) (cA : Nat → ClassId) (s_yearOfNow : Int32) (s_ocean_pace : Int32) (s_ocean_fade : Int32) (s_ocean_depths : Nat → Int32) (s_found_dugMarshes : Int32) (s_found_kept : Int32) (s_found_books_count : Int32) (s_found_books_cells : Nat → Int32) (s_found_books_tos : Nat → Int32) (s_found_books_froms : Nat → Int32) (s_found_books_lows : Nat → Int32) (s_found_books_highs : Nat → Int32) (s_search_times : Nat → Nat → Int32) : va_W := [(a0, .inr (11, [.ref q_text, .ref q_ocean, .ref q_trees, .ref q_found, .ref q_images, .ref q_search, .ref q_stories, .ref q_signs, .ref q_calendar, .ref q_draft, .int s_yearOfNow])), (q_ocean, .inr (4, [.ref q_ocean_depths, .ref q_ocean_figures, .ref q_ocean_times, .int s_ocean_pace, .int s_ocean_fade])), (q_ocean_depths, .inl (cA 1, 48, .inl s_ocean_depths)), (q_found, .inr (2, [.ref q_found_books, .ref q_found_sheets, .ref q_found_known, .ref q_found_weights, .int s_found_dugMarshes, .int s_found_kept])), (q_found_books, .inr (0, [.ref q_found_books_cells, .ref q_found_books_froms, .ref q_found_books_tos, .ref q_found_books_lows, .ref q_found_books_highs, .int s_found_books_count])), (q_search, .inr (5, [.ref q_ocean, .ref q_found_books, .ref q_search_times])), (q_found_books_cells, .inl (cA 1, 6, .inl s_found_books_cells)), (q_found_books_tos, .inl (cA 1, 6, .inl s_found_books_tos)), (q_found_books_froms, .inl (cA 1, 6, .inl s_found_books_froms)), (q_found_books_lows, .inl (cA 1, 6, .inl s_found_books_lows)), (q_found_books_highs, .inl (cA 1, 6, .inl s_found_books_highs)), (q_search_times, .inl (cA 5, 6, .inr (.inr (.inr (.inr (gro 6 r_search_times))))))] ++ grw 6 r_search_times (cA 1) 48 s_search_times
theorem hn_X11_ways_X11 : ∀ w ∈ u_ws RX11 TX11 11, w ∈ wsX11_ways := by decide +kernel
theorem hn_X11_ways_X2 : ∀ w ∈ u_ws RX2 TX2 6, w ∈ wsX11_ways := by decide +kernel
theorem hn_X11_ways_X0 : ∀ w ∈ u_ws RX0 TX0 6, w ∈ wsX11_ways := by decide +kernel
theorem hw_X11_ways_f19 : Cond.fieldLink RX11 19 "OrphanWave" "ocean" "LOrphanWave$Ocean;" ∈ wsX11_ways := by decide +kernel
theorem hw_X11_ways_f33 : Cond.fieldLink RX11 33 "OrphanWave" "found" "LOrphanWave$Findings;" ∈ wsX11_ways := by decide +kernel
theorem hw_X11_ways_f50 : Cond.fieldLink RX11 50 "OrphanWave" "search" "LOrphanWave$Search;" ∈ wsX11_ways := by decide +kernel

def f_X11_ways_18 (s_ocean_pace : Int32) (s_ocean_fade : Int32) (s_ocean_depths : Nat → Int32) (s_found_books_count : Int32) (s_found_books_cells : Nat → Int32) (s_found_books_tos : Nat → Int32) (s_found_books_froms : Nat → Int32) (s_found_books_lows : Nat → Int32) (s_found_books_highs : Nat → Int32) (x1 : Int32) (s_search_times : Nat → Nat → Int32) : Option ((Int32) × (Nat → Nat → Int32)) :=
  pbr (s_found_books_count = 0)
    (some ((-9 : Int32), s_search_times))
    (pcl (f_X5_measure s_found_books_count s_found_books_cells s_ocean_pace s_ocean_depths s_search_times) (fun times_2 => (
    pbr (x1 = (-1 : Int32))
      (pcl (f_X5_allWays s_found_books_count s_ocean_fade s_found_books_tos s_found_books_froms s_found_books_cells s_ocean_depths s_found_books_lows s_found_books_highs times_2) (fun r_7 => (
      some (r_7, times_2))))
      (pcl (f_X5_waysOf x1 s_found_books_count s_found_books_tos s_found_books_froms s_ocean_fade s_found_books_cells s_ocean_depths s_found_books_lows s_found_books_highs times_2) (fun r_5 => (
      some (r_5, times_2)))))))

set_option maxRecDepth 100000 in
set_option maxHeartbeats 4000000 in
theorem k_X11_ways_18 {p : Program} {l : Launch} {e : Env} {s : State} {m : MethodId} {args : Array Value} {below : List Frame} {meth : Method} {c : Code} {A : Nat → Prop} {D : va_G} {cA : Nat → ClassId} (C0 : MX p s m args meth c cX11_ways 2 wsX11_ways RX11 (some .int) D cA) (hA : ∀ q, s.heap.size ≤ q → A q) {a0 : Nat} {q_ocean : Nat} {q_ocean_depths : Nat} {q_found : Nat} {q_found_books : Nat} {q_search : Nat} {q_found_books_cells : Nat} {q_found_books_tos : Nat} {q_found_books_froms : Nat} {q_found_books_lows : Nat} {q_found_books_highs : Nat} {q_search_times : Nat} {q_text : Nat} {q_trees : Nat} {q_images : Nat} {q_stories : Nat} {q_signs : Nat} {q_calendar : Nat} {q_draft : Nat} {q_ocean_figures : Nat} {q_ocean_times : Nat} {q_found_sheets : Nat} {q_found_known : Nat} {q_found_weights : Nat} {r_search_times : Nat → Nat} {s_yearOfNow : Int32} {s_ocean_pace : Int32} {s_ocean_fade : Int32} {s_ocean_depths : Nat → Int32} {s_found_dugMarshes : Int32} {s_found_kept : Int32} {s_found_books_count : Int32} {s_found_books_cells : Nat → Int32} {s_found_books_tos : Nat → Int32} {s_found_books_froms : Nat → Int32} {s_found_books_lows : Nat → Int32} {s_found_books_highs : Nat → Int32} {x1 : Int32} {o_r : Int32} {o_search_times : Nat → Nat → Int32} : ∀ (s_search_times : Nat → Nat → Int32), f_X11_ways_18 s_ocean_pace s_ocean_fade s_ocean_depths s_found_books_count s_found_books_cells s_found_books_tos s_found_books_froms s_found_books_lows s_found_books_highs x1 s_search_times = some (o_r, o_search_times) → ∀ (H : Heap) (locs : List Loc), va_P D vwCl (w_X11_ways a0 q_ocean q_ocean_depths q_found q_found_books q_search q_found_books_cells q_found_books_tos q_found_books_froms q_found_books_lows q_found_books_highs q_search_times q_text q_trees q_images q_stories q_signs q_calendar q_draft q_ocean_figures q_ocean_times q_found_sheets q_found_known q_found_weights r_search_times cA s_yearOfNow s_ocean_pace s_ocean_fade s_ocean_depths s_found_dugMarshes s_found_kept s_found_books_count s_found_books_cells s_found_books_tos s_found_books_froms s_found_books_lows s_found_books_highs s_search_times) H → va_D A (w_X11_ways a0 q_ocean q_ocean_depths q_found q_found_books q_search q_found_books_cells q_found_books_tos q_found_books_froms q_found_books_lows q_found_books_highs q_search_times q_text q_trees q_images q_stories q_signs q_calendar q_draft q_ocean_figures q_ocean_times q_found_sheets q_found_known q_found_weights r_search_times cA s_yearOfNow s_ocean_pace s_ocean_fade s_ocean_depths s_found_dugMarshes s_found_kept s_found_books_count s_found_books_cells s_found_books_tos s_found_books_froms s_found_books_lows s_found_books_highs s_search_times) → va_S A s.heap H locs → ∀ ls : Array Slot, lv_has ls 2 [(0, .ref a0), (1, .int x1)] → W p l e rm_X11_ways s m args below meth c H locs 0 0 (MQ below (CQ D (some (.int o_r)) (w_X11_ways a0 q_ocean q_ocean_depths q_found q_found_books q_search q_found_books_cells q_found_books_tos q_found_books_froms q_found_books_lows q_found_books_highs q_search_times q_text q_trees q_images q_stories q_signs q_calendar q_draft q_ocean_figures q_ocean_times q_found_sheets q_found_known q_found_weights r_search_times cA s_yearOfNow s_ocean_pace s_ocean_fade s_ocean_depths s_found_dugMarshes s_found_kept s_found_books_count s_found_books_cells s_found_books_tos s_found_books_froms s_found_books_lows s_found_books_highs o_search_times) A) args s 0 0 A) (F0 m 18 ls []) := by
  obtain ⟨hx, hb, hml, hown, hts, hr, hlocks, hX⟩ := C0
  have hK := hX.1
  have hN := hX.2
  intro s_search_times hf H locs hP hD hS ls hl
  unfold f_X11_ways_18 at hf
  refine lv_aload_n hx hb dX11_ways_18 rfl (lv_at hl 0 rfl) ?_
  refine va_get (D := D) (ci := 11) (v := .ref q_found) (C := RX11) (T := TX11) (N := 11) hx hb hts hn_X11_ways_X11 hown hK hP 0 rfl rfl 3 (by decide) (hts _ hw_X11_ways_f33) (fun _ h9 => h9) rfl dX11_ways_19 ?_
  refine va_getN (D := D) (ci := 2) (v := .ref q_found_books) (C := RX2) (T := TX2) (N := 6) hx hb hts hn_X11_ways_X2 hown hK hP 3 rfl rfl 0 (by decide) (va_Nw.use rfl (hN _ nw_X11_43)) (fun _ h9 => h9) rfl dX11_ways_22 ?_
  refine va_getN (D := D) (ci := 0) (v := .int s_found_books_count) (C := RX0) (T := TX0) (N := 6) hx hb hts hn_X11_ways_X0 hown hK hP 4 rfl rfl 5 (by decide) (va_Nw.use rfl (hN _ nw_X11_141)) (fun _ h9 => h9) rfl dX11_ways_25 ?_
  refine lv_if_ne (tgt := 34) hx hb dX11_ways_28 (by decide) (fun c_1 => ?_) (fun c_1 => ?_)
  · have hf := pbr_f c_1 hf
    refine lv_aload_n hx hb dX11_ways_34 rfl (lv_at hl 0 rfl) ?_
    refine va_get (D := D) (ci := 11) (v := .ref q_search) (C := RX11) (T := TX11) (N := 11) hx hb hts hn_X11_ways_X11 hown hK hP 0 rfl rfl 5 (by decide) (hts _ hw_X11_ways_f50) (fun _ h9 => h9) rfl dX11_ways_35 ?_
    obtain ⟨times_2, hc_3, hf⟩ := pcl_e hf
    refine m_callV (As := []) (rest := []) ⟨hx, hb, hml, hown, hts⟩ hX (ct_X5_measure l D cA q_search q_found_books q_found_books_cells q_ocean q_ocean_depths q_search_times q_found_books_froms q_found_books_tos q_found_books_lows q_found_books_highs q_ocean_figures q_ocean_times r_search_times s_found_books_count s_found_books_cells s_ocean_pace s_ocean_fade s_ocean_depths s_search_times times_2 hc_3) (cwV 0 hts gX11_ways_X5_measure rfl rfl rfl (by decide +kernel) ⟨Nat.le_of_ble_eq_true rfl, Nat.le_of_ble_eq_true rfl⟩) hP hD hS hA [5, 4, 6, 1, 2, 11, 12, 13, 14, 15, 16, 17] (by decide) rfl rfl (WS' := (w_X11_ways a0 q_ocean q_ocean_depths q_found q_found_books q_search q_found_books_cells q_found_books_tos q_found_books_froms q_found_books_lows q_found_books_highs q_search_times q_text q_trees q_images q_stories q_signs q_calendar q_draft q_ocean_figures q_ocean_times q_found_sheets q_found_known q_found_weights r_search_times cA s_yearOfNow s_ocean_pace s_ocean_fade s_ocean_depths s_found_dugMarshes s_found_kept s_found_books_count s_found_books_cells s_found_books_tos s_found_books_froms s_found_books_lows s_found_books_highs times_2)) rfl 5 5 rfl rfl rfl hl.1 rfl (st' := []) rfl (Nat.le_of_ble_eq_true rfl) ⟨Nat.zero_le _, Nat.zero_le _⟩ dX11_ways_38 (fun H locs hP hD hS => ?_)
    refine lv_iload_n hx hb dX11_ways_41 rfl (lv_at hl 1 rfl) ?_
    refine lv_iconst (v := (-1 : Int32)) hx hb dX11_ways_42 (by decide) ?_
    refine lv_icmp_ne (tgt := 56) hx hb dX11_ways_43 (by decide) (fun c_4 => ?_) (fun c_4 => ?_)
    · have hf := pbr_f c_4 hf
      refine lv_aload_n hx hb dX11_ways_56 rfl (lv_at hl 0 rfl) ?_
      refine va_get (D := D) (ci := 11) (v := .ref q_search) (C := RX11) (T := TX11) (N := 11) hx hb hts hn_X11_ways_X11 hown hK hP 0 rfl rfl 5 (by decide) (hts _ hw_X11_ways_f50) (fun _ h9 => h9) rfl dX11_ways_57 ?_
      refine lv_iload_n hx hb dX11_ways_60 rfl (lv_at hl 1 rfl) ?_
      obtain ⟨r_5, hc_6, hf⟩ := pcl_e hf
      refine m_callV (As := [.int x1]) (rest := []) ⟨hx, hb, hml, hown, hts⟩ hX (ct_X5_waysOf l D cA x1 q_search q_found_books q_found_books_tos q_found_books_froms q_ocean q_found_books_cells q_ocean_depths q_found_books_lows q_found_books_highs q_search_times q_ocean_figures q_ocean_times r_search_times s_found_books_count s_found_books_tos s_found_books_froms s_ocean_pace s_ocean_fade s_found_books_cells s_ocean_depths s_found_books_lows s_found_books_highs times_2 r_5 hc_6) (cwV 1 hts gX11_ways_X5_waysOf rfl rfl rfl (by decide +kernel) ⟨Nat.le_of_ble_eq_true rfl, Nat.le_of_ble_eq_true rfl⟩) hP hD hS hA [5, 4, 7, 8, 1, 6, 2, 9, 10, 11, 12, 13, 14, 15, 16, 17] (by decide) rfl rfl (WS' := (w_X11_ways a0 q_ocean q_ocean_depths q_found q_found_books q_search q_found_books_cells q_found_books_tos q_found_books_froms q_found_books_lows q_found_books_highs q_search_times q_text q_trees q_images q_stories q_signs q_calendar q_draft q_ocean_figures q_ocean_times q_found_sheets q_found_known q_found_weights r_search_times cA s_yearOfNow s_ocean_pace s_ocean_fade s_ocean_depths s_found_dugMarshes s_found_kept s_found_books_count s_found_books_cells s_found_books_tos s_found_books_froms s_found_books_lows s_found_books_highs times_2)) rfl 5 5 rfl rfl rfl hl.1 rfl (st' := [.int r_5]) rfl (Nat.le_of_ble_eq_true rfl) ⟨Nat.zero_le _, Nat.zero_le _⟩ dX11_ways_61 (fun H locs hP hD hS => ?_)
      cases hf
      exact m_iret hx hb hr hlocks hP hS dX11_ways_64
    have hf := pbr_t c_4 hf
    refine lv_aload_n hx hb dX11_ways_46 rfl (lv_at hl 0 rfl) ?_
    refine va_get (D := D) (ci := 11) (v := .ref q_search) (C := RX11) (T := TX11) (N := 11) hx hb hts hn_X11_ways_X11 hown hK hP 0 rfl rfl 5 (by decide) (hts _ hw_X11_ways_f50) (fun _ h9 => h9) rfl dX11_ways_47 ?_
    obtain ⟨r_7, hc_8, hf⟩ := pcl_e hf
    refine m_callV (As := []) (rest := []) ⟨hx, hb, hml, hown, hts⟩ hX (ct_X5_allWays l D cA q_search q_found_books q_ocean q_found_books_tos q_found_books_froms q_found_books_cells q_ocean_depths q_found_books_lows q_found_books_highs q_search_times q_ocean_figures q_ocean_times r_search_times s_found_books_count s_ocean_pace s_ocean_fade s_found_books_tos s_found_books_froms s_found_books_cells s_ocean_depths s_found_books_lows s_found_books_highs times_2 r_7 hc_8) (cwV 0 hts gX11_ways_X5_allWays rfl rfl rfl (by decide +kernel) ⟨Nat.le_of_ble_eq_true rfl, Nat.le_of_ble_eq_true rfl⟩) hP hD hS hA [5, 4, 1, 7, 8, 6, 2, 9, 10, 11, 12, 13, 14, 15, 16, 17] (by decide) rfl rfl (WS' := (w_X11_ways a0 q_ocean q_ocean_depths q_found q_found_books q_search q_found_books_cells q_found_books_tos q_found_books_froms q_found_books_lows q_found_books_highs q_search_times q_text q_trees q_images q_stories q_signs q_calendar q_draft q_ocean_figures q_ocean_times q_found_sheets q_found_known q_found_weights r_search_times cA s_yearOfNow s_ocean_pace s_ocean_fade s_ocean_depths s_found_dugMarshes s_found_kept s_found_books_count s_found_books_cells s_found_books_tos s_found_books_froms s_found_books_lows s_found_books_highs times_2)) rfl 5 5 rfl rfl rfl hl.1 rfl (st' := [.int r_7]) rfl (Nat.le_of_ble_eq_true rfl) ⟨Nat.zero_le _, Nat.zero_le _⟩ dX11_ways_50 (fun H locs hP hD hS => ?_)
    refine lv_goto (tgt := 64) hx hb dX11_ways_53 (by decide) ?_
    cases hf
    exact m_iret hx hb hr hlocks hP hS dX11_ways_64
  have hf := pbr_t c_1 hf
  refine lv_bipush (v := (-9 : Int32)) hx hb dX11_ways_31 (by decide) ?_
  cases hf
  exact m_iret hx hb hr hlocks hP hS dX11_ways_33

def f_X11_ways (x1 : Int32) (s_ocean_pace : Int32) (s_ocean_fade : Int32) (s_ocean_depths : Nat → Int32) (s_found_books_count : Int32) (s_found_books_cells : Nat → Int32) (s_found_books_tos : Nat → Int32) (s_found_books_froms : Nat → Int32) (s_found_books_lows : Nat → Int32) (s_found_books_highs : Nat → Int32) (s_search_times : Nat → Nat → Int32) : Option ((Int32) × (Nat → Nat → Int32)) :=
  pbr (x1 = (-1 : Int32))
    (f_X11_ways_18 s_ocean_pace s_ocean_fade s_ocean_depths s_found_books_count s_found_books_cells s_found_books_tos s_found_books_froms s_found_books_lows s_found_books_highs x1 s_search_times)
    (pcl (f_X4_isSea x1 s_ocean_depths) (fun r_2 => (
    pbr (r_2 = 0)
      (some ((-1 : Int32), s_search_times))
      (f_X11_ways_18 s_ocean_pace s_ocean_fade s_ocean_depths s_found_books_count s_found_books_cells s_found_books_tos s_found_books_froms s_found_books_lows s_found_books_highs x1 s_search_times))))

set_option maxRecDepth 100000 in
set_option maxHeartbeats 4000000 in
theorem ct_X11_ways (l : Launch) (D : va_G) (cA : Nat → ClassId) (x1 : Int32) (a0 : Nat) (q_ocean : Nat) (q_ocean_depths : Nat) (q_found : Nat) (q_found_books : Nat) (q_search : Nat) (q_found_books_cells : Nat) (q_found_books_tos : Nat) (q_found_books_froms : Nat) (q_found_books_lows : Nat) (q_found_books_highs : Nat) (q_search_times : Nat) (q_text : Nat) (q_trees : Nat) (q_images : Nat) (q_stories : Nat) (q_signs : Nat) (q_calendar : Nat) (q_draft : Nat) (q_ocean_figures : Nat) (q_ocean_times : Nat) (q_found_sheets : Nat) (q_found_known : Nat) (q_found_weights : Nat) (r_search_times : Nat → Nat) (s_yearOfNow : Int32) (s_ocean_pace : Int32) (s_ocean_fade : Int32) (s_ocean_depths : Nat → Int32) (s_found_dugMarshes : Int32) (s_found_kept : Int32) (s_found_books_count : Int32) (s_found_books_cells : Nat → Int32) (s_found_books_tos : Nat → Int32) (s_found_books_froms : Nat → Int32) (s_found_books_lows : Nat → Int32) (s_found_books_highs : Nat → Int32) (s_search_times : Nat → Nat → Int32) (o_r : Int32) (o_search_times : Nat → Nat → Int32) (hf : f_X11_ways x1 s_ocean_pace s_ocean_fade s_ocean_depths s_found_books_count s_found_books_cells s_found_books_tos s_found_books_froms s_found_books_lows s_found_books_highs s_search_times = some (o_r, o_search_times)) : CT l yX11_ways wsX11_ways rm_X11_ways D cA [.ref a0, .int x1] (w_X11_ways a0 q_ocean q_ocean_depths q_found q_found_books q_search q_found_books_cells q_found_books_tos q_found_books_froms q_found_books_lows q_found_books_highs q_search_times q_text q_trees q_images q_stories q_signs q_calendar q_draft q_ocean_figures q_ocean_times q_found_sheets q_found_known q_found_weights r_search_times cA s_yearOfNow s_ocean_pace s_ocean_fade s_ocean_depths s_found_dugMarshes s_found_kept s_found_books_count s_found_books_cells s_found_books_tos s_found_books_froms s_found_books_lows s_found_books_highs s_search_times) (w_X11_ways a0 q_ocean q_ocean_depths q_found q_found_books q_search q_found_books_cells q_found_books_tos q_found_books_froms q_found_books_lows q_found_books_highs q_search_times q_text q_trees q_images q_stories q_signs q_calendar q_draft q_ocean_figures q_ocean_times q_found_sheets q_found_known q_found_weights r_search_times cA s_yearOfNow s_ocean_pace s_ocean_fade s_ocean_depths s_found_dugMarshes s_found_kept s_found_books_count s_found_books_cells s_found_books_tos s_found_books_froms s_found_books_lows s_found_books_highs o_search_times) (some (.int o_r)) := by
  refine CT.ofW (cc := cX11_ways) (maxL := 2) (ret := (some .int)) (by decide +kernel) rfl (Nat.le_of_ble_eq_true rfl) ?_
  intro p e s m below meth c A C0 hA hP hD ls hl
  have C0 : MX p s m [.ref a0, .int x1].toArray meth c cX11_ways 2 wsX11_ways RX11 (some .int) D cA := C0
  have hl : lv_has ls 2 [(0, .ref a0), (1, .int x1)] := hl
  obtain ⟨hx, hb, hml, hown, hts, hr, hlocks, hX⟩ := id C0
  have hK := hX.1
  have hN := hX.2
  have hS : va_S A s.heap s.heap [] := va_S.rf
  unfold f_X11_ways at hf
  refine lv_iload_n hx hb dX11_ways_0 rfl (lv_at hl 1 rfl) ?_
  refine lv_iconst (v := (-1 : Int32)) hx hb dX11_ways_1 (by decide) ?_
  refine lv_icmp_eq (tgt := 18) hx hb dX11_ways_2 (by decide) (fun c_1 => ?_) (fun c_1 => ?_)
  · have hf := pbr_t c_1 hf
    exact k_X11_ways_18 C0 hA s_search_times hf _ _ hP hD hS ls (lv_sub hl [0, 1] rfl)
  have hf := pbr_f c_1 hf
  refine lv_aload_n hx hb dX11_ways_5 rfl (lv_at hl 0 rfl) ?_
  refine va_get (D := D) (ci := 11) (v := .ref q_ocean) (C := RX11) (T := TX11) (N := 11) hx hb hts hn_X11_ways_X11 hown hK hP 0 rfl rfl 1 (by decide) (hts _ hw_X11_ways_f19) (fun _ h9 => h9) rfl dX11_ways_6 ?_
  refine lv_iload_n hx hb dX11_ways_9 rfl (lv_at hl 1 rfl) ?_
  obtain ⟨r_2, hc_3, hf⟩ := pcl_e hf
  refine m_callV (As := [.int x1]) (rest := []) ⟨hx, hb, hml, hown, hts⟩ hX (ct_X4_isSea l D cA x1 q_ocean q_ocean_depths q_ocean_figures q_ocean_times s_ocean_pace s_ocean_fade s_ocean_depths r_2 hc_3) (cwV 1 hts gX11_ways_X4_isSea rfl rfl rfl (by decide +kernel) ⟨Nat.le_of_ble_eq_true rfl, Nat.le_of_ble_eq_true rfl⟩) hP hD hS hA [1, 2] (by decide) rfl rfl (WS' := (w_X11_ways a0 q_ocean q_ocean_depths q_found q_found_books q_search q_found_books_cells q_found_books_tos q_found_books_froms q_found_books_lows q_found_books_highs q_search_times q_text q_trees q_images q_stories q_signs q_calendar q_draft q_ocean_figures q_ocean_times q_found_sheets q_found_known q_found_weights r_search_times cA s_yearOfNow s_ocean_pace s_ocean_fade s_ocean_depths s_found_dugMarshes s_found_kept s_found_books_count s_found_books_cells s_found_books_tos s_found_books_froms s_found_books_lows s_found_books_highs s_search_times)) rfl 1 4 rfl rfl rfl hl.1 rfl (st' := [.int r_2]) rfl (Nat.le_of_ble_eq_true rfl) ⟨Nat.zero_le _, Nat.zero_le _⟩ dX11_ways_10 (fun H locs hP hD hS => ?_)
  refine lv_if_ne (tgt := 18) hx hb dX11_ways_13 (by decide) (fun c_4 => ?_) (fun c_4 => ?_)
  · have hf := pbr_f c_4 hf
    exact k_X11_ways_18 C0 hA s_search_times hf _ _ hP hD hS ls (lv_sub hl [0, 1] rfl)
  have hf := pbr_t c_4 hf
  refine lv_iconst (v := (-1 : Int32)) hx hb dX11_ways_16 (by decide) ?_
  cases hf
  exact m_iret hx hb hr hlocks hP hS dX11_ways_17

/-! ===== OrphanWave.whence(I)I ===== -/
abbrev rm_X11_whence : Room := { frames := 5, cells := 0, slots := 0, locals := 105 }
abbrev wx_X11_whence (a0 : Nat) (q_found : Nat) (q_found_books : Nat) (q_search : Nat) (q_ocean : Nat) (q_found_books_cells : Nat) (q_ocean_depths : Nat) (q_found_books_tos : Nat) (q_found_books_froms : Nat) (q_found_books_lows : Nat) (q_found_books_highs : Nat) (q_search_times : Nat) (q_text : Nat) (q_trees : Nat) (q_images : Nat) (q_stories : Nat) (q_signs : Nat) (q_calendar : Nat) (q_draft : Nat) (q_found_sheets : Nat) (q_found_known : Nat) (q_found_weights : Nat) (q_ocean_figures : Nat) (q_ocean_times : Nat) (r_search_times : Nat → Nat) (cA : Nat → ClassId) (s_yearOfNow : Int32) (s_found_dugMarshes : Int32) (s_found_kept : Int32) (s_found_books_count : Int32) (s_ocean_pace : Int32) (s_ocean_fade : Int32) (s_found_books_cells : Nat → Int32) (s_ocean_depths : Nat → Int32) (s_found_books_tos : Nat → Int32) (s_found_books_froms : Nat → Int32) (s_found_books_lows : Nat → Int32) (s_found_books_highs : Nat → Int32) (s_search_times : Nat → Nat → Int32) : va_W := [(a0, .inr (11, [.ref q_text, .ref q_ocean, .ref q_trees, .ref q_found, .ref q_images, .ref q_search, .ref q_stories, .ref q_signs, .ref q_calendar, .ref q_draft, .int s_yearOfNow])), (q_found, .inr (2, [.ref q_found_books, .ref q_found_sheets, .ref q_found_known, .ref q_found_weights, .int s_found_dugMarshes, .int s_found_kept])), (q_found_books, .inr (0, [.ref q_found_books_cells, .ref q_found_books_froms, .ref q_found_books_tos, .ref q_found_books_lows, .ref q_found_books_highs, .int s_found_books_count])), (q_search, .inr (5, [.ref q_ocean, .ref q_found_books, .ref q_search_times])), (q_ocean, .inr (4, [.ref q_ocean_depths, .ref q_ocean_figures, .ref q_ocean_times, .int s_ocean_pace, .int s_ocean_fade])), (q_found_books_cells, .inl (cA 1, 6, .inl s_found_books_cells)), (q_ocean_depths, .inl (cA 1, 48, .inl s_ocean_depths)), (q_found_books_tos, .inl (cA 1, 6, .inl s_found_books_tos)), (q_found_books_froms, .inl (cA 1, 6, .inl s_found_books_froms)), (q_found_books_lows, .inl (cA 1, 6, .inl s_found_books_lows)), (q_found_books_highs, .inl (cA 1, 6, .inl s_found_books_highs)), (q_search_times, .inl (cA 5, 6, .inr (.inr (.inr (.inr (gro 6 r_search_times))))))]
abbrev w_X11_whence (a0 : Nat) (q_found : Nat) (q_found_books : Nat) (q_search : Nat) (q_ocean : Nat) (q_found_books_cells : Nat) (q_ocean_depths : Nat) (q_found_books_tos : Nat) (q_found_books_froms : Nat) (q_found_books_lows : Nat) (q_found_books_highs : Nat) (q_search_times : Nat) (q_text : Nat) (q_trees : Nat) (q_images : Nat) (q_stories : Nat) (q_signs : Nat) (q_calendar : Nat) (q_draft : Nat) (q_found_sheets : Nat) (q_found_known : Nat) (q_found_weights : Nat) (q_ocean_figures : Nat) (q_ocean_times : Nat) (r_search_times : Nat → Nat) (cA : Nat → ClassId) (s_yearOfNow : Int32) (s_found_dugMarshes : Int32) (s_found_kept : Int32) (s_found_books_count : Int32) (s_ocean_pace : Int32) (s_ocean_fade : Int32) (s_found_books_cells : Nat → Int32) (s_ocean_depths : Nat → Int32) (s_found_books_tos : Nat → Int32) (s_found_books_froms : Nat → Int32) (s_found_books_lows : Nat → Int32) (s_found_books_highs : Nat → Int32) (s_search_times : Nat → Nat → Int32) : va_W := [(a0, .inr (11, [.ref q_text, .ref q_ocean, .ref q_trees, .ref q_found, .ref q_images, .ref q_search, .ref q_stories, .ref q_signs, .ref q_calendar, .ref q_draft, .int s_yearOfNow])), (q_found, .inr (2, [.ref q_found_books, .ref q_found_sheets, .ref q_found_known, .ref q_found_weights, .int s_found_dugMarshes, .int s_found_kept])), (q_found_books, .inr (0, [.ref q_found_books_cells, .ref q_found_books_froms, .ref q_found_books_tos, .ref q_found_books_lows, .ref q_found_books_highs, .int s_found_books_count])), (q_search, .inr (5, [.ref q_ocean, .ref q_found_books, .ref q_search_times])), (q_ocean, .inr (4, [.ref q_ocean_depths, .ref q_ocean_figures, .ref q_ocean_times, .int s_ocean_pace, .int s_ocean_fade])), (q_found_books_cells, .inl (cA 1, 6, .inl s_found_books_cells)), (q_ocean_depths, .inl (cA 1, 48, .inl s_ocean_depths)), (q_found_books_tos, .inl (cA 1, 6, .inl s_found_books_tos)), (q_found_books_froms, .inl (cA 1, 6, .inl s_found_books_froms)), (q_found_books_lows, .inl (cA 1, 6, .inl s_found_books_lows)), (q_found_books_highs, .inl (cA 1, 6, .inl s_found_books_highs)), (q_search_times, .inl (cA 5, 6, .inr (.inr (.inr (.inr (gro 6 r_search_times))))))] ++ grw 6 r_search_times (cA 1) 48 s_search_times
theorem hn_X11_whence_X11 : ∀ w ∈ u_ws RX11 TX11 11, w ∈ wsX11_whence := by decide +kernel
theorem hn_X11_whence_X2 : ∀ w ∈ u_ws RX2 TX2 6, w ∈ wsX11_whence := by decide +kernel
theorem hn_X11_whence_X0 : ∀ w ∈ u_ws RX0 TX0 6, w ∈ wsX11_whence := by decide +kernel
theorem hw_X11_whence_c163 : Cond.constant RX11 163 (-1000000) ∈ wsX11_whence := by decide +kernel
theorem hw_X11_whence_f33 : Cond.fieldLink RX11 33 "OrphanWave" "found" "LOrphanWave$Findings;" ∈ wsX11_whence := by decide +kernel
theorem hw_X11_whence_f50 : Cond.fieldLink RX11 50 "OrphanWave" "search" "LOrphanWave$Search;" ∈ wsX11_whence := by decide +kernel

def f_X11_whence (x1 : Int32) (s_found_books_count : Int32) (s_ocean_pace : Int32) (s_ocean_fade : Int32) (s_found_books_cells : Nat → Int32) (s_ocean_depths : Nat → Int32) (s_found_books_tos : Nat → Int32) (s_found_books_froms : Nat → Int32) (s_found_books_lows : Nat → Int32) (s_found_books_highs : Nat → Int32) (s_search_times : Nat → Nat → Int32) : Option ((Int32) × (Nat → Nat → Int32)) :=
  pcl (f_X11_within x1 (0 : Int32) (4 : Int32)) (fun r_1 => (
  pbr (r_1 = 0)
    (some ((-1000000 : Int32), s_search_times))
    (pbr (s_found_books_count = 0)
      (some ((-1000000 : Int32), s_search_times))
      (pcl (f_X5_measure s_found_books_count s_found_books_cells s_ocean_pace s_ocean_depths s_search_times) (fun times_5 => (
      pcl (f_X5_likeliestCell s_found_books_count s_ocean_fade s_found_books_tos s_found_books_froms s_found_books_cells s_ocean_depths s_found_books_lows s_found_books_highs times_5) (fun r_7 => (
      pbr (r_7 = (-9 : Int32))
        (some ((-1000000 : Int32), times_5))
        (pbr (x1 = (0 : Int32))
          (some (r_7, times_5))
        (pbr (x1 = (1 : Int32))
          (pcl (f_X5_leastSize r_7 s_found_books_count s_ocean_fade s_found_books_cells s_ocean_depths s_found_books_lows s_found_books_highs times_5) (fun r_12 => (
          some (r_12, times_5))))
        (pbr (x1 = (2 : Int32))
          (pcl (f_X5_greatestSize r_7 s_found_books_count s_ocean_fade s_found_books_cells s_ocean_depths s_found_books_lows s_found_books_highs times_5) (fun r_15 => (
          some (r_15, times_5))))
        (pbr (x1 = (3 : Int32))
          (pcl (f_X5_earliestBegin r_7 s_found_books_count s_found_books_froms times_5) (fun r_18 => (
          some (r_18, times_5))))
        (pcl (f_X5_latestBegin r_7 s_found_books_count s_found_books_tos times_5) (fun r_20 => (
        some (r_20, times_5))))))))))))))))

set_option maxRecDepth 100000 in
set_option maxHeartbeats 4000000 in
theorem ct_X11_whence (l : Launch) (D : va_G) (cA : Nat → ClassId) (x1 : Int32) (a0 : Nat) (q_found : Nat) (q_found_books : Nat) (q_search : Nat) (q_ocean : Nat) (q_found_books_cells : Nat) (q_ocean_depths : Nat) (q_found_books_tos : Nat) (q_found_books_froms : Nat) (q_found_books_lows : Nat) (q_found_books_highs : Nat) (q_search_times : Nat) (q_text : Nat) (q_trees : Nat) (q_images : Nat) (q_stories : Nat) (q_signs : Nat) (q_calendar : Nat) (q_draft : Nat) (q_found_sheets : Nat) (q_found_known : Nat) (q_found_weights : Nat) (q_ocean_figures : Nat) (q_ocean_times : Nat) (r_search_times : Nat → Nat) (s_yearOfNow : Int32) (s_found_dugMarshes : Int32) (s_found_kept : Int32) (s_found_books_count : Int32) (s_ocean_pace : Int32) (s_ocean_fade : Int32) (s_found_books_cells : Nat → Int32) (s_ocean_depths : Nat → Int32) (s_found_books_tos : Nat → Int32) (s_found_books_froms : Nat → Int32) (s_found_books_lows : Nat → Int32) (s_found_books_highs : Nat → Int32) (s_search_times : Nat → Nat → Int32) (o_r : Int32) (o_search_times : Nat → Nat → Int32) (hf : f_X11_whence x1 s_found_books_count s_ocean_pace s_ocean_fade s_found_books_cells s_ocean_depths s_found_books_tos s_found_books_froms s_found_books_lows s_found_books_highs s_search_times = some (o_r, o_search_times)) : CT l yX11_whence wsX11_whence rm_X11_whence D cA [.ref a0, .int x1] (w_X11_whence a0 q_found q_found_books q_search q_ocean q_found_books_cells q_ocean_depths q_found_books_tos q_found_books_froms q_found_books_lows q_found_books_highs q_search_times q_text q_trees q_images q_stories q_signs q_calendar q_draft q_found_sheets q_found_known q_found_weights q_ocean_figures q_ocean_times r_search_times cA s_yearOfNow s_found_dugMarshes s_found_kept s_found_books_count s_ocean_pace s_ocean_fade s_found_books_cells s_ocean_depths s_found_books_tos s_found_books_froms s_found_books_lows s_found_books_highs s_search_times) (w_X11_whence a0 q_found q_found_books q_search q_ocean q_found_books_cells q_ocean_depths q_found_books_tos q_found_books_froms q_found_books_lows q_found_books_highs q_search_times q_text q_trees q_images q_stories q_signs q_calendar q_draft q_found_sheets q_found_known q_found_weights q_ocean_figures q_ocean_times r_search_times cA s_yearOfNow s_found_dugMarshes s_found_kept s_found_books_count s_ocean_pace s_ocean_fade s_found_books_cells s_ocean_depths s_found_books_tos s_found_books_froms s_found_books_lows s_found_books_highs o_search_times) (some (.int o_r)) := by
  refine CT.ofW (cc := cX11_whence) (maxL := 3) (ret := (some .int)) (by decide +kernel) rfl (Nat.le_of_ble_eq_true rfl) ?_
  intro p e s m below meth c A C0 hA hP hD ls hl
  have C0 : MX p s m [.ref a0, .int x1].toArray meth c cX11_whence 3 wsX11_whence RX11 (some .int) D cA := C0
  have hl : lv_has ls 3 [(0, .ref a0), (1, .int x1)] := hl
  obtain ⟨hx, hb, hml, hown, hts, hr, hlocks, hX⟩ := id C0
  have hK := hX.1
  have hN := hX.2
  have hS : va_S A s.heap s.heap [] := va_S.rf
  unfold f_X11_whence at hf
  refine lv_iload_n hx hb dX11_whence_0 rfl (lv_at hl 1 rfl) ?_
  refine lv_iconst (v := (0 : Int32)) hx hb dX11_whence_1 (by decide) ?_
  refine lv_iconst (v := (4 : Int32)) hx hb dX11_whence_2 (by decide) ?_
  obtain ⟨r_1, hc_2, hf⟩ := pcl_e hf
  refine m_callS (As := [.int x1, .int (0 : Int32), .int (4 : Int32)]) (rest := []) ⟨hx, hb, hml, hown, hts⟩ hX (ct_X11_within l D cA x1 (0 : Int32) (4 : Int32) r_1 hc_2) (va_cwS 3 hts gX11_whence_X11_within rfl rfl rfl (by decide +kernel) ⟨Nat.le_of_ble_eq_true rfl, Nat.le_of_ble_eq_true rfl⟩) hP hD hS hA [] (by decide) rfl rfl (WS' := (w_X11_whence a0 q_found q_found_books q_search q_ocean q_found_books_cells q_ocean_depths q_found_books_tos q_found_books_froms q_found_books_lows q_found_books_highs q_search_times q_text q_trees q_images q_stories q_signs q_calendar q_draft q_found_sheets q_found_known q_found_weights q_ocean_figures q_ocean_times r_search_times cA s_yearOfNow s_found_dugMarshes s_found_kept s_found_books_count s_ocean_pace s_ocean_fade s_found_books_cells s_ocean_depths s_found_books_tos s_found_books_froms s_found_books_lows s_found_books_highs s_search_times)) rfl rfl hl.1 rfl (st' := [.int r_1]) rfl (Nat.le_of_ble_eq_true rfl) ⟨Nat.zero_le _, Nat.zero_le _⟩ dX11_whence_3 (fun H locs hP hD hS => ?_)
  refine lv_if_eq (tgt := 22) hx hb dX11_whence_6 (by decide) (fun c_3 => ?_) (fun c_3 => ?_)
  · have hf := pbr_t c_3 hf
    refine lv_ldc (v := (-1000000 : Int32)) hx hb hown (hts _ hw_X11_whence_c163) dX11_whence_22 ?_
    cases hf
    exact m_iret hx hb hr hlocks hP hS dX11_whence_24
  have hf := pbr_f c_3 hf
  refine lv_aload_n hx hb dX11_whence_9 rfl (lv_at hl 0 rfl) ?_
  refine va_get (D := D) (ci := 11) (v := .ref q_found) (C := RX11) (T := TX11) (N := 11) hx hb hts hn_X11_whence_X11 hown hK hP 0 rfl rfl 3 (by decide) (hts _ hw_X11_whence_f33) (fun _ h9 => h9) rfl dX11_whence_10 ?_
  refine va_getN (D := D) (ci := 2) (v := .ref q_found_books) (C := RX2) (T := TX2) (N := 6) hx hb hts hn_X11_whence_X2 hown hK hP 1 rfl rfl 0 (by decide) (va_Nw.use rfl (hN _ nw_X11_43)) (fun _ h9 => h9) rfl dX11_whence_13 ?_
  refine va_getN (D := D) (ci := 0) (v := .int s_found_books_count) (C := RX0) (T := TX0) (N := 6) hx hb hts hn_X11_whence_X0 hown hK hP 2 rfl rfl 5 (by decide) (va_Nw.use rfl (hN _ nw_X11_141)) (fun _ h9 => h9) rfl dX11_whence_16 ?_
  refine lv_if_ne (tgt := 25) hx hb dX11_whence_19 (by decide) (fun c_4 => ?_) (fun c_4 => ?_)
  · have hf := pbr_f c_4 hf
    refine lv_aload_n hx hb dX11_whence_25 rfl (lv_at hl 0 rfl) ?_
    refine va_get (D := D) (ci := 11) (v := .ref q_search) (C := RX11) (T := TX11) (N := 11) hx hb hts hn_X11_whence_X11 hown hK hP 0 rfl rfl 5 (by decide) (hts _ hw_X11_whence_f50) (fun _ h9 => h9) rfl dX11_whence_26 ?_
    obtain ⟨times_5, hc_6, hf⟩ := pcl_e hf
    refine m_callV (As := []) (rest := []) ⟨hx, hb, hml, hown, hts⟩ hX (ct_X5_measure l D cA q_search q_found_books q_found_books_cells q_ocean q_ocean_depths q_search_times q_found_books_froms q_found_books_tos q_found_books_lows q_found_books_highs q_ocean_figures q_ocean_times r_search_times s_found_books_count s_found_books_cells s_ocean_pace s_ocean_fade s_ocean_depths s_search_times times_5 hc_6) (cwV 0 hts gX11_whence_X5_measure rfl rfl rfl (by decide +kernel) ⟨Nat.le_of_ble_eq_true rfl, Nat.le_of_ble_eq_true rfl⟩) hP hD hS hA [3, 2, 5, 4, 6, 11, 12, 13, 14, 15, 16, 17] (by decide) rfl rfl (WS' := (w_X11_whence a0 q_found q_found_books q_search q_ocean q_found_books_cells q_ocean_depths q_found_books_tos q_found_books_froms q_found_books_lows q_found_books_highs q_search_times q_text q_trees q_images q_stories q_signs q_calendar q_draft q_found_sheets q_found_known q_found_weights q_ocean_figures q_ocean_times r_search_times cA s_yearOfNow s_found_dugMarshes s_found_kept s_found_books_count s_ocean_pace s_ocean_fade s_found_books_cells s_ocean_depths s_found_books_tos s_found_books_froms s_found_books_lows s_found_books_highs times_5)) rfl 3 5 rfl rfl rfl hl.1 rfl (st' := []) rfl (Nat.le_of_ble_eq_true rfl) ⟨Nat.zero_le _, Nat.zero_le _⟩ dX11_whence_29 (fun H locs hP hD hS => ?_)
    refine lv_aload_n hx hb dX11_whence_32 rfl (lv_at hl 0 rfl) ?_
    refine va_get (D := D) (ci := 11) (v := .ref q_search) (C := RX11) (T := TX11) (N := 11) hx hb hts hn_X11_whence_X11 hown hK hP 0 rfl rfl 5 (by decide) (hts _ hw_X11_whence_f50) (fun _ h9 => h9) rfl dX11_whence_33 ?_
    obtain ⟨r_7, hc_8, hf⟩ := pcl_e hf
    refine m_callV (As := []) (rest := []) ⟨hx, hb, hml, hown, hts⟩ hX (ct_X5_likeliestCell l D cA q_search q_found_books q_ocean q_found_books_tos q_found_books_froms q_found_books_cells q_ocean_depths q_found_books_lows q_found_books_highs q_search_times q_ocean_figures q_ocean_times r_search_times s_found_books_count s_ocean_pace s_ocean_fade s_found_books_tos s_found_books_froms s_found_books_cells s_ocean_depths s_found_books_lows s_found_books_highs times_5 r_7 hc_8) (cwV 0 hts gX11_whence_X5_likeliestCell rfl rfl rfl (by decide +kernel) ⟨Nat.le_of_ble_eq_true rfl, Nat.le_of_ble_eq_true rfl⟩) hP hD hS hA [3, 2, 4, 7, 8, 5, 6, 9, 10, 11, 12, 13, 14, 15, 16, 17] (by decide) rfl rfl (WS' := (w_X11_whence a0 q_found q_found_books q_search q_ocean q_found_books_cells q_ocean_depths q_found_books_tos q_found_books_froms q_found_books_lows q_found_books_highs q_search_times q_text q_trees q_images q_stories q_signs q_calendar q_draft q_found_sheets q_found_known q_found_weights q_ocean_figures q_ocean_times r_search_times cA s_yearOfNow s_found_dugMarshes s_found_kept s_found_books_count s_ocean_pace s_ocean_fade s_found_books_cells s_ocean_depths s_found_books_tos s_found_books_froms s_found_books_lows s_found_books_highs times_5)) rfl 3 5 rfl rfl rfl hl.1 rfl (st' := [.int r_7]) rfl (Nat.le_of_ble_eq_true rfl) ⟨Nat.zero_le _, Nat.zero_le _⟩ dX11_whence_36 (fun H locs hP hD hS => ?_)
    refine lv_istore_n (lv' := [(2, .int r_7), (0, .ref a0), (1, .int x1)]) hx hb dX11_whence_39 rfl hl (by decide) rfl (fun ls hl => ?_)
    refine lv_iload_n hx hb dX11_whence_40 rfl (lv_at hl 0 rfl) ?_
    refine lv_bipush (v := (-9 : Int32)) hx hb dX11_whence_41 (by decide) ?_
    refine lv_icmp_ne (tgt := 49) hx hb dX11_whence_43 (by decide) (fun c_9 => ?_) (fun c_9 => ?_)
    · have hf := pbr_f c_9 hf
      refine lv_iload_n hx hb dX11_whence_49 rfl (lv_at hl 2 rfl) ?_
      by_cases c_10 : x1 = (0 : Int32)
      · have hf := pbr_t c_10 hf
        refine lv_tableIn (off := 30) (tgt := 80) hx hb dX11_whence_50 (by rw [c_10]; decide) (by rw [c_10]; decide) (by rw [c_10]; rfl) (by decide) ?_
        refine lv_iload_n hx hb dX11_whence_80 rfl (lv_at hl 0 rfl) ?_
        cases hf
        exact m_iret hx hb hr hlocks hP hS dX11_whence_81
      have hf := pbr_f c_10 hf
      by_cases c_11 : x1 = (1 : Int32)
      · have hf := pbr_t c_11 hf
        refine lv_tableIn (off := 32) (tgt := 82) hx hb dX11_whence_50 (by rw [c_11]; decide) (by rw [c_11]; decide) (by rw [c_11]; rfl) (by decide) ?_
        refine lv_aload_n hx hb dX11_whence_82 rfl (lv_at hl 1 rfl) ?_
        refine va_get (D := D) (ci := 11) (v := .ref q_search) (C := RX11) (T := TX11) (N := 11) hx hb hts hn_X11_whence_X11 hown hK hP 0 rfl rfl 5 (by decide) (hts _ hw_X11_whence_f50) (fun _ h9 => h9) rfl dX11_whence_83 ?_
        refine lv_iload_n hx hb dX11_whence_86 rfl (lv_at hl 0 rfl) ?_
        obtain ⟨r_12, hc_13, hf⟩ := pcl_e hf
        refine m_callV (As := [.int r_7]) (rest := []) ⟨hx, hb, hml, hown, hts⟩ hX (ct_X5_leastSize l D cA r_7 q_search q_found_books q_ocean q_found_books_cells q_ocean_depths q_found_books_lows q_found_books_highs q_search_times q_found_books_froms q_found_books_tos q_ocean_figures q_ocean_times r_search_times s_found_books_count s_ocean_pace s_ocean_fade s_found_books_cells s_ocean_depths s_found_books_lows s_found_books_highs times_5 r_12 hc_13) (cwV 1 hts gX11_whence_X5_leastSize rfl rfl rfl (by decide +kernel) ⟨Nat.le_of_ble_eq_true rfl, Nat.le_of_ble_eq_true rfl⟩) hP hD hS hA [3, 2, 4, 5, 6, 9, 10, 11, 12, 13, 14, 15, 16, 17] (by decide) rfl rfl (WS' := (w_X11_whence a0 q_found q_found_books q_search q_ocean q_found_books_cells q_ocean_depths q_found_books_tos q_found_books_froms q_found_books_lows q_found_books_highs q_search_times q_text q_trees q_images q_stories q_signs q_calendar q_draft q_found_sheets q_found_known q_found_weights q_ocean_figures q_ocean_times r_search_times cA s_yearOfNow s_found_dugMarshes s_found_kept s_found_books_count s_ocean_pace s_ocean_fade s_found_books_cells s_ocean_depths s_found_books_tos s_found_books_froms s_found_books_lows s_found_books_highs times_5)) rfl 3 5 rfl rfl rfl hl.1 rfl (st' := [.int r_12]) rfl (Nat.le_of_ble_eq_true rfl) ⟨Nat.zero_le _, Nat.zero_le _⟩ dX11_whence_87 (fun H locs hP hD hS => ?_)
        cases hf
        exact m_iret hx hb hr hlocks hP hS dX11_whence_90
      have hf := pbr_f c_11 hf
      by_cases c_14 : x1 = (2 : Int32)
      · have hf := pbr_t c_14 hf
        refine lv_tableIn (off := 41) (tgt := 91) hx hb dX11_whence_50 (by rw [c_14]; decide) (by rw [c_14]; decide) (by rw [c_14]; rfl) (by decide) ?_
        refine lv_aload_n hx hb dX11_whence_91 rfl (lv_at hl 1 rfl) ?_
        refine va_get (D := D) (ci := 11) (v := .ref q_search) (C := RX11) (T := TX11) (N := 11) hx hb hts hn_X11_whence_X11 hown hK hP 0 rfl rfl 5 (by decide) (hts _ hw_X11_whence_f50) (fun _ h9 => h9) rfl dX11_whence_92 ?_
        refine lv_iload_n hx hb dX11_whence_95 rfl (lv_at hl 0 rfl) ?_
        obtain ⟨r_15, hc_16, hf⟩ := pcl_e hf
        refine m_callV (As := [.int r_7]) (rest := []) ⟨hx, hb, hml, hown, hts⟩ hX (ct_X5_greatestSize l D cA r_7 q_search q_found_books q_ocean q_found_books_cells q_ocean_depths q_found_books_lows q_found_books_highs q_search_times q_found_books_froms q_found_books_tos q_ocean_figures q_ocean_times r_search_times s_found_books_count s_ocean_pace s_ocean_fade s_found_books_cells s_ocean_depths s_found_books_lows s_found_books_highs times_5 r_15 hc_16) (cwV 1 hts gX11_whence_X5_greatestSize rfl rfl rfl (by decide +kernel) ⟨Nat.le_of_ble_eq_true rfl, Nat.le_of_ble_eq_true rfl⟩) hP hD hS hA [3, 2, 4, 5, 6, 9, 10, 11, 12, 13, 14, 15, 16, 17] (by decide) rfl rfl (WS' := (w_X11_whence a0 q_found q_found_books q_search q_ocean q_found_books_cells q_ocean_depths q_found_books_tos q_found_books_froms q_found_books_lows q_found_books_highs q_search_times q_text q_trees q_images q_stories q_signs q_calendar q_draft q_found_sheets q_found_known q_found_weights q_ocean_figures q_ocean_times r_search_times cA s_yearOfNow s_found_dugMarshes s_found_kept s_found_books_count s_ocean_pace s_ocean_fade s_found_books_cells s_ocean_depths s_found_books_tos s_found_books_froms s_found_books_lows s_found_books_highs times_5)) rfl 3 5 rfl rfl rfl hl.1 rfl (st' := [.int r_15]) rfl (Nat.le_of_ble_eq_true rfl) ⟨Nat.zero_le _, Nat.zero_le _⟩ dX11_whence_96 (fun H locs hP hD hS => ?_)
        cases hf
        exact m_iret hx hb hr hlocks hP hS dX11_whence_99
      have hf := pbr_f c_14 hf
      by_cases c_17 : x1 = (3 : Int32)
      · have hf := pbr_t c_17 hf
        refine lv_tableIn (off := 50) (tgt := 100) hx hb dX11_whence_50 (by rw [c_17]; decide) (by rw [c_17]; decide) (by rw [c_17]; rfl) (by decide) ?_
        refine lv_aload_n hx hb dX11_whence_100 rfl (lv_at hl 1 rfl) ?_
        refine va_get (D := D) (ci := 11) (v := .ref q_search) (C := RX11) (T := TX11) (N := 11) hx hb hts hn_X11_whence_X11 hown hK hP 0 rfl rfl 5 (by decide) (hts _ hw_X11_whence_f50) (fun _ h9 => h9) rfl dX11_whence_101 ?_
        refine lv_iload_n hx hb dX11_whence_104 rfl (lv_at hl 0 rfl) ?_
        obtain ⟨r_18, hc_19, hf⟩ := pcl_e hf
        refine m_callV (As := [.int r_7]) (rest := []) ⟨hx, hb, hml, hown, hts⟩ hX (ct_X5_earliestBegin l D cA r_7 q_search q_found_books q_found_books_froms q_search_times q_ocean q_found_books_cells q_found_books_tos q_found_books_lows q_found_books_highs r_search_times s_found_books_count s_found_books_froms times_5 r_18 hc_19) (cwV 1 hts gX11_whence_X5_earliestBegin rfl rfl rfl (by decide +kernel) ⟨Nat.le_of_ble_eq_true rfl, Nat.le_of_ble_eq_true rfl⟩) hP hD hS hA [3, 2, 8, 11, 12, 13, 14, 15, 16, 17] (by decide) rfl rfl (WS' := (w_X11_whence a0 q_found q_found_books q_search q_ocean q_found_books_cells q_ocean_depths q_found_books_tos q_found_books_froms q_found_books_lows q_found_books_highs q_search_times q_text q_trees q_images q_stories q_signs q_calendar q_draft q_found_sheets q_found_known q_found_weights q_ocean_figures q_ocean_times r_search_times cA s_yearOfNow s_found_dugMarshes s_found_kept s_found_books_count s_ocean_pace s_ocean_fade s_found_books_cells s_ocean_depths s_found_books_tos s_found_books_froms s_found_books_lows s_found_books_highs times_5)) rfl 3 5 rfl rfl rfl hl.1 rfl (st' := [.int r_18]) rfl (Nat.le_of_ble_eq_true rfl) ⟨Nat.zero_le _, Nat.zero_le _⟩ dX11_whence_105 (fun H locs hP hD hS => ?_)
        cases hf
        exact m_iret hx hb hr hlocks hP hS dX11_whence_108
      have hf := pbr_f c_17 hf
      refine lv_tableOut (tgt := 109) hx hb dX11_whence_50 (by have := lv_neT (a := 0) c_10 (by decide); have := lv_neT (a := 1) c_11 (by decide); have := lv_neT (a := 2) c_14 (by decide); have := lv_neT (a := 3) c_17 (by decide); omega) (by decide) ?_
      refine lv_aload_n hx hb dX11_whence_109 rfl (lv_at hl 1 rfl) ?_
      refine va_get (D := D) (ci := 11) (v := .ref q_search) (C := RX11) (T := TX11) (N := 11) hx hb hts hn_X11_whence_X11 hown hK hP 0 rfl rfl 5 (by decide) (hts _ hw_X11_whence_f50) (fun _ h9 => h9) rfl dX11_whence_110 ?_
      refine lv_iload_n hx hb dX11_whence_113 rfl (lv_at hl 0 rfl) ?_
      obtain ⟨r_20, hc_21, hf⟩ := pcl_e hf
      refine m_callV (As := [.int r_7]) (rest := []) ⟨hx, hb, hml, hown, hts⟩ hX (ct_X5_latestBegin l D cA r_7 q_search q_found_books q_found_books_tos q_search_times q_ocean q_found_books_cells q_found_books_froms q_found_books_lows q_found_books_highs r_search_times s_found_books_count s_found_books_tos times_5 r_20 hc_21) (cwV 1 hts gX11_whence_X5_latestBegin rfl rfl rfl (by decide +kernel) ⟨Nat.le_of_ble_eq_true rfl, Nat.le_of_ble_eq_true rfl⟩) hP hD hS hA [3, 2, 7, 11, 12, 13, 14, 15, 16, 17] (by decide) rfl rfl (WS' := (w_X11_whence a0 q_found q_found_books q_search q_ocean q_found_books_cells q_ocean_depths q_found_books_tos q_found_books_froms q_found_books_lows q_found_books_highs q_search_times q_text q_trees q_images q_stories q_signs q_calendar q_draft q_found_sheets q_found_known q_found_weights q_ocean_figures q_ocean_times r_search_times cA s_yearOfNow s_found_dugMarshes s_found_kept s_found_books_count s_ocean_pace s_ocean_fade s_found_books_cells s_ocean_depths s_found_books_tos s_found_books_froms s_found_books_lows s_found_books_highs times_5)) rfl 3 5 rfl rfl rfl hl.1 rfl (st' := [.int r_20]) rfl (Nat.le_of_ble_eq_true rfl) ⟨Nat.zero_le _, Nat.zero_le _⟩ dX11_whence_114 (fun H locs hP hD hS => ?_)
      cases hf
      exact m_iret hx hb hr hlocks hP hS dX11_whence_117
    have hf := pbr_t c_9 hf
    refine lv_ldc (v := (-1000000 : Int32)) hx hb hown (hts _ hw_X11_whence_c163) dX11_whence_46 ?_
    cases hf
    exact m_iret hx hb hr hlocks hP hS dX11_whence_48
  have hf := pbr_t c_4 hf
  refine lv_ldc (v := (-1000000 : Int32)) hx hb hown (hts _ hw_X11_whence_c163) dX11_whence_22 ?_
  cases hf
  exact m_iret hx hb hr hlocks hP hS dX11_whence_24

/-! ===== OrphanWave.calendar()I ===== -/
abbrev rm_X11_calendar : Room := { frames := 4, cells := 0, slots := 0, locals := 90 }
abbrev wx_X11_calendar (a0 : Nat) (q_draft : Nat) (q_text : Nat) (q_text_bytes : Nat) (q_draft_months : Nat) (q_draft_lengths : Nat) (q_ocean : Nat) (q_trees : Nat) (q_found : Nat) (q_images : Nat) (q_search : Nat) (q_stories : Nat) (q_signs : Nat) (q_calendar : Nat) (r_draft_lengths : Nat → Nat) (cA : Nat → ClassId) (s_calendar : Nat) (s_draft : Nat) (s_yearOfNow : Int32) (s_draft_years : Int32) (s_text_length : Int32) (s_text_bytes : Nat → Int32) (s_draft_months : Nat → Int32) (s_draft_lengths : Nat → Nat → Int32) : va_W := [(a0, .inr (11, [.ref q_text, .ref q_ocean, .ref q_trees, .ref q_found, .ref q_images, .ref q_search, .ref q_stories, .ref q_signs, .ref s_calendar, .ref s_draft, .int s_yearOfNow])), (q_draft, .inr (1, [.ref q_draft_lengths, .ref q_draft_months, .int s_draft_years])), (q_text, .inr (9, [.ref q_text_bytes, .int s_text_length])), (q_text_bytes, .inl (cA 0, 400, .inl s_text_bytes)), (q_draft_months, .inl (cA 1, 8, .inl s_draft_months)), (q_draft_lengths, .inl (cA 5, 8, .inr (.inr (.inr (.inr (gro 8 r_draft_lengths))))))]
abbrev w_X11_calendar (a0 : Nat) (q_draft : Nat) (q_text : Nat) (q_text_bytes : Nat) (q_draft_months : Nat) (q_draft_lengths : Nat) (q_ocean : Nat) (q_trees : Nat) (q_found : Nat) (q_images : Nat) (q_search : Nat) (q_stories : Nat) (q_signs : Nat) (q_calendar : Nat) (r_draft_lengths : Nat → Nat) (cA : Nat → ClassId) (s_calendar : Nat) (s_draft : Nat) (s_yearOfNow : Int32) (s_draft_years : Int32) (s_text_length : Int32) (s_text_bytes : Nat → Int32) (s_draft_months : Nat → Int32) (s_draft_lengths : Nat → Nat → Int32) : va_W := [(a0, .inr (11, [.ref q_text, .ref q_ocean, .ref q_trees, .ref q_found, .ref q_images, .ref q_search, .ref q_stories, .ref q_signs, .ref s_calendar, .ref s_draft, .int s_yearOfNow])), (q_draft, .inr (1, [.ref q_draft_lengths, .ref q_draft_months, .int s_draft_years])), (q_text, .inr (9, [.ref q_text_bytes, .int s_text_length])), (q_text_bytes, .inl (cA 0, 400, .inl s_text_bytes)), (q_draft_months, .inl (cA 1, 8, .inl s_draft_months)), (q_draft_lengths, .inl (cA 5, 8, .inr (.inr (.inr (.inr (gro 8 r_draft_lengths))))))] ++ grw 8 r_draft_lengths (cA 1) 13 s_draft_lengths
theorem hn_X11_calendar_X11 : ∀ w ∈ u_ws RX11 TX11 11, w ∈ wsX11_calendar := by decide +kernel
theorem hn_X11_calendar_X1 : ∀ w ∈ u_ws RX1 TX1 3, w ∈ wsX11_calendar := by decide +kernel
theorem hw_X11_calendar_f77 : Cond.fieldLink RX11 77 "OrphanWave" "draft" "LOrphanWave$Calendar;" ∈ wsX11_calendar := by decide +kernel
theorem hw_X11_calendar_f12 : Cond.fieldLink RX11 12 "OrphanWave" "text" "LOrphanWave$Text;" ∈ wsX11_calendar := by decide +kernel
theorem hw_X11_calendar_f73 : Cond.fieldLink RX11 73 "OrphanWave" "calendar" "LOrphanWave$Calendar;" ∈ wsX11_calendar := by decide +kernel

def f_X11_calendar (q_calendar : Nat) (q_draft : Nat) (s_draft_years : Int32) (s_text_length : Int32) (s_text_bytes : Nat → Int32) (s_draft_months : Nat → Int32) (s_draft_lengths : Nat → Nat → Int32) : Option ((Int32) × (Nat) × (Nat) × (Int32) × (Int32) × (Nat → Int32) × (Nat → Nat → Int32)) :=
  pcl (f_X1_become s_draft_years s_text_length s_text_bytes s_draft_months s_draft_lengths) (fun (r_1, years_2, months_3, lengths_4) => (
  pbr (r_1 = (-1 : Int32))
    (pcl (f_X9_empty s_text_length) (fun (r_7, length_8) => (
    some (years_2, q_draft, q_calendar, years_2, length_8, months_3, lengths_4))))
    (some (((-10 : Int32) - r_1), q_calendar, q_draft, years_2, s_text_length, months_3, lengths_4))))

set_option maxRecDepth 100000 in
set_option maxHeartbeats 4000000 in
theorem ct_X11_calendar (l : Launch) (D : va_G) (cA : Nat → ClassId) (a0 : Nat) (q_draft : Nat) (q_text : Nat) (q_text_bytes : Nat) (q_draft_months : Nat) (q_draft_lengths : Nat) (q_ocean : Nat) (q_trees : Nat) (q_found : Nat) (q_images : Nat) (q_search : Nat) (q_stories : Nat) (q_signs : Nat) (q_calendar : Nat) (r_draft_lengths : Nat → Nat) (s_yearOfNow : Int32) (s_draft_years : Int32) (s_text_length : Int32) (s_text_bytes : Nat → Int32) (s_draft_months : Nat → Int32) (s_draft_lengths : Nat → Nat → Int32) (o_r : Int32) (o_calendar : Nat) (o_draft : Nat) (o_draft_years : Int32) (o_text_length : Int32) (o_draft_months : Nat → Int32) (o_draft_lengths : Nat → Nat → Int32) (hf : f_X11_calendar q_calendar q_draft s_draft_years s_text_length s_text_bytes s_draft_months s_draft_lengths = some (o_r, o_calendar, o_draft, o_draft_years, o_text_length, o_draft_months, o_draft_lengths)) : CT l yX11_calendar wsX11_calendar rm_X11_calendar D cA [.ref a0] (w_X11_calendar a0 q_draft q_text q_text_bytes q_draft_months q_draft_lengths q_ocean q_trees q_found q_images q_search q_stories q_signs q_calendar r_draft_lengths cA q_calendar q_draft s_yearOfNow s_draft_years s_text_length s_text_bytes s_draft_months s_draft_lengths) (w_X11_calendar a0 q_draft q_text q_text_bytes q_draft_months q_draft_lengths q_ocean q_trees q_found q_images q_search q_stories q_signs q_calendar r_draft_lengths cA o_calendar o_draft s_yearOfNow o_draft_years o_text_length s_text_bytes o_draft_months o_draft_lengths) (some (.int o_r)) := by
  refine CT.ofW (cc := cX11_calendar) (maxL := 3) (ret := (some .int)) (by decide +kernel) rfl (Nat.le_of_ble_eq_true rfl) ?_
  intro p e s m below meth c A C0 hA hP hD ls hl
  have C0 : MX p s m [.ref a0].toArray meth c cX11_calendar 3 wsX11_calendar RX11 (some .int) D cA := C0
  have hl : lv_has ls 3 [(0, .ref a0)] := hl
  obtain ⟨hx, hb, hml, hown, hts, hr, hlocks, hX⟩ := id C0
  have hK := hX.1
  have hN := hX.2
  have hS : va_S A s.heap s.heap [] := va_S.rf
  unfold f_X11_calendar at hf
  refine lv_aload_n hx hb dX11_calendar_0 rfl (lv_at hl 0 rfl) ?_
  refine va_get (D := D) (ci := 11) (v := .ref q_draft) (C := RX11) (T := TX11) (N := 11) hx hb hts hn_X11_calendar_X11 hown hK hP 0 rfl rfl 9 (by decide) (hts _ hw_X11_calendar_f77) (fun _ h9 => h9) rfl dX11_calendar_1 ?_
  refine lv_aload_n hx hb dX11_calendar_4 rfl (lv_at hl 0 rfl) ?_
  refine va_get (D := D) (ci := 11) (v := .ref q_text) (C := RX11) (T := TX11) (N := 11) hx hb hts hn_X11_calendar_X11 hown hK hP 0 rfl rfl 0 (by decide) (hts _ hw_X11_calendar_f12) (fun _ h9 => h9) rfl dX11_calendar_5 ?_
  obtain ⟨⟨r_1, years_2, months_3, lengths_4⟩, hc_5, hf⟩ := pcl_e hf
  refine m_callV (As := [.ref q_text]) (rest := []) ⟨hx, hb, hml, hown, hts⟩ hX (ct_X1_become l D cA q_draft q_text q_text_bytes q_draft_months q_draft_lengths r_draft_lengths s_draft_years s_text_length s_text_bytes s_draft_months s_draft_lengths r_1 years_2 months_3 lengths_4 hc_5) (cwV 1 hts gX11_calendar_X1_become rfl rfl rfl (by decide +kernel) ⟨Nat.le_of_ble_eq_true rfl, Nat.le_of_ble_eq_true rfl⟩) hP hD hS hA [1, 2, 3, 4, 5, 6, 7, 8, 9, 10, 11, 12, 13] (by decide) rfl rfl (WS' := (w_X11_calendar a0 q_draft q_text q_text_bytes q_draft_months q_draft_lengths q_ocean q_trees q_found q_images q_search q_stories q_signs q_calendar r_draft_lengths cA q_calendar q_draft s_yearOfNow years_2 s_text_length s_text_bytes months_3 lengths_4)) rfl 1 1 rfl rfl rfl hl.1 rfl (st' := [.int r_1]) rfl (Nat.le_of_ble_eq_true rfl) ⟨Nat.zero_le _, Nat.zero_le _⟩ dX11_calendar_8 (fun H locs hP hD hS => ?_)
  refine lv_istore_n (lv' := [(1, .int r_1), (0, .ref a0)]) hx hb dX11_calendar_11 rfl hl (by decide) rfl (fun ls hl => ?_)
  refine lv_iload_n hx hb dX11_calendar_12 rfl (lv_at hl 0 rfl) ?_
  refine lv_iconst (v := (-1 : Int32)) hx hb dX11_calendar_13 (by decide) ?_
  refine lv_icmp_eq (tgt := 22) hx hb dX11_calendar_14 (by decide) (fun c_6 => ?_) (fun c_6 => ?_)
  · have hf := pbr_t c_6 hf
    refine lv_aload_n hx hb dX11_calendar_22 rfl (lv_at hl 1 rfl) ?_
    refine va_get (D := D) (ci := 11) (v := .ref q_draft) (C := RX11) (T := TX11) (N := 11) hx hb hts hn_X11_calendar_X11 hown hK hP 0 rfl rfl 9 (by decide) (hts _ hw_X11_calendar_f77) (fun _ h9 => h9) rfl dX11_calendar_23 ?_
    refine lv_astore_n (lv' := [(2, .ref q_draft), (1, .int r_1), (0, .ref a0)]) hx hb dX11_calendar_26 rfl hl (by decide) rfl (fun ls hl => ?_)
    refine lv_aload_n hx hb dX11_calendar_27 rfl (lv_at hl 2 rfl) ?_
    refine lv_aload_n hx hb dX11_calendar_28 rfl (lv_at hl 2 rfl) ?_
    refine va_get (D := D) (ci := 11) (v := .ref q_calendar) (C := RX11) (T := TX11) (N := 11) hx hb hts hn_X11_calendar_X11 hown hK hP 0 rfl rfl 8 (by decide) (hts _ hw_X11_calendar_f73) (fun _ h9 => h9) rfl dX11_calendar_29 ?_
    refine va_put (D := D) (ci := 11) (v := .ref q_calendar) (ty := .object "OrphanWave$Calendar") (C := RX11) (T := TX11) (N := 11) hx hb hts hn_X11_calendar_X11 tyX11 tyX11_ok nmX11 hown hK hP hD hS 0 rfl rfl 9 (by decide) (hts _ hw_X11_calendar_f77) (fun _ h9 => h9) rfl (by decide +kernel) rfl rfl (Nat.le_of_ble_eq_true rfl) dX11_calendar_32 (fun H locs hP hD hS => ?_)
    have hP : va_P D vwCl (w_X11_calendar a0 q_draft q_text q_text_bytes q_draft_months q_draft_lengths q_ocean q_trees q_found q_images q_search q_stories q_signs q_calendar r_draft_lengths cA q_calendar q_calendar s_yearOfNow years_2 s_text_length s_text_bytes months_3 lengths_4) H := hP
    have hD : va_D A (w_X11_calendar a0 q_draft q_text q_text_bytes q_draft_months q_draft_lengths q_ocean q_trees q_found q_images q_search q_stories q_signs q_calendar r_draft_lengths cA q_calendar q_calendar s_yearOfNow years_2 s_text_length s_text_bytes months_3 lengths_4) := hD
    refine lv_aload_n hx hb dX11_calendar_35 rfl (lv_at hl 2 rfl) ?_
    refine lv_aload_n hx hb dX11_calendar_36 rfl (lv_at hl 0 rfl) ?_
    refine va_put (D := D) (ci := 11) (v := .ref q_draft) (ty := .object "OrphanWave$Calendar") (C := RX11) (T := TX11) (N := 11) hx hb hts hn_X11_calendar_X11 tyX11 tyX11_ok nmX11 hown hK hP hD hS 0 rfl rfl 8 (by decide) (hts _ hw_X11_calendar_f73) (fun _ h9 => h9) rfl (by decide +kernel) rfl rfl (Nat.le_of_ble_eq_true rfl) dX11_calendar_37 (fun H locs hP hD hS => ?_)
    have hP : va_P D vwCl (w_X11_calendar a0 q_draft q_text q_text_bytes q_draft_months q_draft_lengths q_ocean q_trees q_found q_images q_search q_stories q_signs q_calendar r_draft_lengths cA q_draft q_calendar s_yearOfNow years_2 s_text_length s_text_bytes months_3 lengths_4) H := hP
    have hD : va_D A (w_X11_calendar a0 q_draft q_text q_text_bytes q_draft_months q_draft_lengths q_ocean q_trees q_found q_images q_search q_stories q_signs q_calendar r_draft_lengths cA q_draft q_calendar s_yearOfNow years_2 s_text_length s_text_bytes months_3 lengths_4) := hD
    refine lv_aload_n hx hb dX11_calendar_40 rfl (lv_at hl 2 rfl) ?_
    refine va_get (D := D) (ci := 11) (v := .ref q_text) (C := RX11) (T := TX11) (N := 11) hx hb hts hn_X11_calendar_X11 hown hK hP 0 rfl rfl 0 (by decide) (hts _ hw_X11_calendar_f12) (fun _ h9 => h9) rfl dX11_calendar_41 ?_
    obtain ⟨⟨r_7, length_8⟩, hc_9, hf⟩ := pcl_e hf
    refine m_callV (As := []) (rest := []) ⟨hx, hb, hml, hown, hts⟩ hX (ct_X9_empty l D cA q_text q_text_bytes s_text_length r_7 length_8 hc_9) (cwV 0 hts gX11_calendar_X9_empty rfl rfl rfl (by decide +kernel) ⟨Nat.le_of_ble_eq_true rfl, Nat.le_of_ble_eq_true rfl⟩) hP hD hS hA [2] (by decide) rfl rfl (WS' := (w_X11_calendar a0 q_draft q_text q_text_bytes q_draft_months q_draft_lengths q_ocean q_trees q_found q_images q_search q_stories q_signs q_calendar r_draft_lengths cA q_draft q_calendar s_yearOfNow years_2 length_8 s_text_bytes months_3 lengths_4)) rfl 2 9 rfl rfl rfl hl.1 rfl (st' := [.int r_7]) rfl (Nat.le_of_ble_eq_true rfl) ⟨Nat.zero_le _, Nat.zero_le _⟩ dX11_calendar_44 (fun H locs hP hD hS => ?_)
    refine lv_pop hx hb dX11_calendar_47 rfl ?_
    refine lv_aload_n hx hb dX11_calendar_48 rfl (lv_at hl 2 rfl) ?_
    refine va_get (D := D) (ci := 11) (v := .ref q_draft) (C := RX11) (T := TX11) (N := 11) hx hb hts hn_X11_calendar_X11 hown hK hP 0 rfl rfl 8 (by decide) (hts _ hw_X11_calendar_f73) (fun _ h9 => h9) rfl dX11_calendar_49 ?_
    refine va_getN (D := D) (ci := 1) (v := .int years_2) (C := RX1) (T := TX1) (N := 3) hx hb hts hn_X11_calendar_X1 hown hK hP 1 rfl rfl 2 (by decide) (va_Nw.use rfl (hN _ nw_X11_180)) (fun _ h9 => h9) rfl dX11_calendar_52 ?_
    cases hf
    exact m_iret hx hb hr hlocks hP hS dX11_calendar_55
  have hf := pbr_f c_6 hf
  refine lv_bipush (v := (-10 : Int32)) hx hb dX11_calendar_17 (by decide) ?_
  refine lv_iload_n hx hb dX11_calendar_19 rfl (lv_at hl 0 rfl) ?_
  refine lv_isub hx hb dX11_calendar_20 ?_
  cases hf
  exact m_iret hx hb hr hlocks hP hS dX11_calendar_21

/-! ===== OrphanWave.clock(IIII)I ===== -/
abbrev rm_X11_clock : Room := { frames := 2, cells := 0, slots := 0, locals := 49 }
abbrev wx_X11_clock (a0 : Nat) (q_calendar : Nat) (q_calendar_months : Nat) (q_calendar_lengths : Nat) (q_text : Nat) (q_ocean : Nat) (q_trees : Nat) (q_found : Nat) (q_images : Nat) (q_search : Nat) (q_stories : Nat) (q_signs : Nat) (q_draft : Nat) (r_calendar_lengths : Nat → Nat) (cA : Nat → ClassId) (s_yearOfNow : Int32) (s_calendar_years : Int32) (s_calendar_months : Nat → Int32) (s_calendar_lengths : Nat → Nat → Int32) : va_W := [(a0, .inr (11, [.ref q_text, .ref q_ocean, .ref q_trees, .ref q_found, .ref q_images, .ref q_search, .ref q_stories, .ref q_signs, .ref q_calendar, .ref q_draft, .int s_yearOfNow])), (q_calendar, .inr (1, [.ref q_calendar_lengths, .ref q_calendar_months, .int s_calendar_years])), (q_calendar_months, .inl (cA 1, 8, .inl s_calendar_months)), (q_calendar_lengths, .inl (cA 5, 8, .inr (.inr (.inr (.inr (gro 8 r_calendar_lengths))))))]
abbrev w_X11_clock (a0 : Nat) (q_calendar : Nat) (q_calendar_months : Nat) (q_calendar_lengths : Nat) (q_text : Nat) (q_ocean : Nat) (q_trees : Nat) (q_found : Nat) (q_images : Nat) (q_search : Nat) (q_stories : Nat) (q_signs : Nat) (q_draft : Nat) (r_calendar_lengths : Nat → Nat) (cA : Nat → ClassId) (s_yearOfNow : Int32) (s_calendar_years : Int32) (s_calendar_months : Nat → Int32) (s_calendar_lengths : Nat → Nat → Int32) : va_W := [(a0, .inr (11, [.ref q_text, .ref q_ocean, .ref q_trees, .ref q_found, .ref q_images, .ref q_search, .ref q_stories, .ref q_signs, .ref q_calendar, .ref q_draft, .int s_yearOfNow])), (q_calendar, .inr (1, [.ref q_calendar_lengths, .ref q_calendar_months, .int s_calendar_years])), (q_calendar_months, .inl (cA 1, 8, .inl s_calendar_months)), (q_calendar_lengths, .inl (cA 5, 8, .inr (.inr (.inr (.inr (gro 8 r_calendar_lengths))))))] ++ grw 8 r_calendar_lengths (cA 1) 13 s_calendar_lengths
theorem hn_X11_clock_X11 : ∀ w ∈ u_ws RX11 TX11 11, w ∈ wsX11_clock := by decide +kernel
theorem hw_X11_clock_f73 : Cond.fieldLink RX11 73 "OrphanWave" "calendar" "LOrphanWave$Calendar;" ∈ wsX11_clock := by decide +kernel
theorem hw_X11_clock_c163 : Cond.constant RX11 163 (-1000000) ∈ wsX11_clock := by decide +kernel

def f_X11_clock (x1 : Int32) (x2 : Int32) (x3 : Int32) (x4 : Int32) (s_calendar_years : Int32) (s_calendar_months : Nat → Int32) (s_calendar_lengths : Nat → Nat → Int32) : Option ((Int32)) :=
  pcl (f_X1_hasDay x1 x2 x3 s_calendar_years s_calendar_months s_calendar_lengths) (fun r_1 => (
  pbr (r_1 = 0)
    (some ((-1000000 : Int32)))
    (pcl (f_X11_within x4 (0 : Int32) (11 : Int32)) (fun r_4 => (
    pbr (r_4 = 0)
      (some ((-1000000 : Int32)))
      (pcl (f_X1_daysAhead x1 x2 x3 s_calendar_months s_calendar_lengths) (fun r_7 => (
      some ((((r_7 * (1440 : Int32)) + (x4 * (120 : Int32))) - (60 : Int32)))))))))))

set_option maxRecDepth 100000 in
set_option maxHeartbeats 4000000 in
theorem ct_X11_clock (l : Launch) (D : va_G) (cA : Nat → ClassId) (x1 : Int32) (x2 : Int32) (x3 : Int32) (x4 : Int32) (a0 : Nat) (q_calendar : Nat) (q_calendar_months : Nat) (q_calendar_lengths : Nat) (q_text : Nat) (q_ocean : Nat) (q_trees : Nat) (q_found : Nat) (q_images : Nat) (q_search : Nat) (q_stories : Nat) (q_signs : Nat) (q_draft : Nat) (r_calendar_lengths : Nat → Nat) (s_yearOfNow : Int32) (s_calendar_years : Int32) (s_calendar_months : Nat → Int32) (s_calendar_lengths : Nat → Nat → Int32) (o_r : Int32) (hf : f_X11_clock x1 x2 x3 x4 s_calendar_years s_calendar_months s_calendar_lengths = some o_r) : CT l yX11_clock wsX11_clock rm_X11_clock D cA [.ref a0, .int x1, .int x2, .int x3, .int x4] (w_X11_clock a0 q_calendar q_calendar_months q_calendar_lengths q_text q_ocean q_trees q_found q_images q_search q_stories q_signs q_draft r_calendar_lengths cA s_yearOfNow s_calendar_years s_calendar_months s_calendar_lengths) (w_X11_clock a0 q_calendar q_calendar_months q_calendar_lengths q_text q_ocean q_trees q_found q_images q_search q_stories q_signs q_draft r_calendar_lengths cA s_yearOfNow s_calendar_years s_calendar_months s_calendar_lengths) (some (.int o_r)) := by
  refine CT.ofW (cc := cX11_clock) (maxL := 5) (ret := (some .int)) (by decide +kernel) rfl (Nat.le_of_ble_eq_true rfl) ?_
  intro p e s m below meth c A C0 hA hP hD ls hl
  have C0 : MX p s m [.ref a0, .int x1, .int x2, .int x3, .int x4].toArray meth c cX11_clock 5 wsX11_clock RX11 (some .int) D cA := C0
  have hl : lv_has ls 5 [(0, .ref a0), (1, .int x1), (2, .int x2), (3, .int x3), (4, .int x4)] := hl
  obtain ⟨hx, hb, hml, hown, hts, hr, hlocks, hX⟩ := id C0
  have hK := hX.1
  have hN := hX.2
  have hS : va_S A s.heap s.heap [] := va_S.rf
  unfold f_X11_clock at hf
  refine lv_aload_n hx hb dX11_clock_0 rfl (lv_at hl 0 rfl) ?_
  refine va_get (D := D) (ci := 11) (v := .ref q_calendar) (C := RX11) (T := TX11) (N := 11) hx hb hts hn_X11_clock_X11 hown hK hP 0 rfl rfl 8 (by decide) (hts _ hw_X11_clock_f73) (fun _ h9 => h9) rfl dX11_clock_1 ?_
  refine lv_iload_n hx hb dX11_clock_4 rfl (lv_at hl 1 rfl) ?_
  refine lv_iload_n hx hb dX11_clock_5 rfl (lv_at hl 2 rfl) ?_
  refine lv_iload_n hx hb dX11_clock_6 rfl (lv_at hl 3 rfl) ?_
  obtain ⟨r_1, hc_2, hf⟩ := pcl_e hf
  refine m_callV (As := [.int x1, .int x2, .int x3]) (rest := []) ⟨hx, hb, hml, hown, hts⟩ hX (ct_X1_hasDay l D cA x1 x2 x3 q_calendar q_calendar_months q_calendar_lengths r_calendar_lengths s_calendar_years s_calendar_months s_calendar_lengths r_1 hc_2) (cwV 3 hts gX11_clock_X1_hasDay rfl rfl rfl (by decide +kernel) ⟨Nat.le_of_ble_eq_true rfl, Nat.le_of_ble_eq_true rfl⟩) hP hD hS hA [1, 2, 3, 4, 5, 6, 7, 8, 9, 10, 11] (by decide) rfl rfl (WS' := (w_X11_clock a0 q_calendar q_calendar_months q_calendar_lengths q_text q_ocean q_trees q_found q_images q_search q_stories q_signs q_draft r_calendar_lengths cA s_yearOfNow s_calendar_years s_calendar_months s_calendar_lengths)) rfl 1 1 rfl rfl rfl hl.1 rfl (st' := [.int r_1]) rfl (Nat.le_of_ble_eq_true rfl) ⟨Nat.zero_le _, Nat.zero_le _⟩ dX11_clock_7 (fun H locs hP hD hS => ?_)
  refine lv_if_eq (tgt := 24) hx hb dX11_clock_10 (by decide) (fun c_3 => ?_) (fun c_3 => ?_)
  · have hf := pbr_t c_3 hf
    refine lv_ldc (v := (-1000000 : Int32)) hx hb hown (hts _ hw_X11_clock_c163) dX11_clock_24 ?_
    cases hf
    exact m_iret hx hb hr hlocks hP hS dX11_clock_26
  have hf := pbr_f c_3 hf
  refine lv_iload hx hb dX11_clock_13 (lv_at hl 4 rfl) ?_
  refine lv_iconst (v := (0 : Int32)) hx hb dX11_clock_15 (by decide) ?_
  refine lv_bipush (v := (11 : Int32)) hx hb dX11_clock_16 (by decide) ?_
  obtain ⟨r_4, hc_5, hf⟩ := pcl_e hf
  refine m_callS (As := [.int x4, .int (0 : Int32), .int (11 : Int32)]) (rest := []) ⟨hx, hb, hml, hown, hts⟩ hX (ct_X11_within l D cA x4 (0 : Int32) (11 : Int32) r_4 hc_5) (va_cwS 3 hts gX11_clock_X11_within rfl rfl rfl (by decide +kernel) ⟨Nat.le_of_ble_eq_true rfl, Nat.le_of_ble_eq_true rfl⟩) hP hD hS hA [] (by decide) rfl rfl (WS' := (w_X11_clock a0 q_calendar q_calendar_months q_calendar_lengths q_text q_ocean q_trees q_found q_images q_search q_stories q_signs q_draft r_calendar_lengths cA s_yearOfNow s_calendar_years s_calendar_months s_calendar_lengths)) rfl rfl hl.1 rfl (st' := [.int r_4]) rfl (Nat.le_of_ble_eq_true rfl) ⟨Nat.zero_le _, Nat.zero_le _⟩ dX11_clock_18 (fun H locs hP hD hS => ?_)
  refine lv_if_ne (tgt := 27) hx hb dX11_clock_21 (by decide) (fun c_6 => ?_) (fun c_6 => ?_)
  · have hf := pbr_f c_6 hf
    refine lv_aload_n hx hb dX11_clock_27 rfl (lv_at hl 0 rfl) ?_
    refine va_get (D := D) (ci := 11) (v := .ref q_calendar) (C := RX11) (T := TX11) (N := 11) hx hb hts hn_X11_clock_X11 hown hK hP 0 rfl rfl 8 (by decide) (hts _ hw_X11_clock_f73) (fun _ h9 => h9) rfl dX11_clock_28 ?_
    refine lv_iload_n hx hb dX11_clock_31 rfl (lv_at hl 1 rfl) ?_
    refine lv_iload_n hx hb dX11_clock_32 rfl (lv_at hl 2 rfl) ?_
    refine lv_iload_n hx hb dX11_clock_33 rfl (lv_at hl 3 rfl) ?_
    obtain ⟨r_7, hc_8, hf⟩ := pcl_e hf
    refine m_callV (As := [.int x1, .int x2, .int x3]) (rest := []) ⟨hx, hb, hml, hown, hts⟩ hX (ct_X1_daysAhead l D cA x1 x2 x3 q_calendar q_calendar_months q_calendar_lengths r_calendar_lengths s_calendar_years s_calendar_months s_calendar_lengths r_7 hc_8) (cwV 3 hts gX11_clock_X1_daysAhead rfl rfl rfl (by decide +kernel) ⟨Nat.le_of_ble_eq_true rfl, Nat.le_of_ble_eq_true rfl⟩) hP hD hS hA [1, 2, 3, 4, 5, 6, 7, 8, 9, 10, 11] (by decide) rfl rfl (WS' := (w_X11_clock a0 q_calendar q_calendar_months q_calendar_lengths q_text q_ocean q_trees q_found q_images q_search q_stories q_signs q_draft r_calendar_lengths cA s_yearOfNow s_calendar_years s_calendar_months s_calendar_lengths)) rfl 1 1 rfl rfl rfl hl.1 rfl (st' := [.int r_7]) rfl (Nat.le_of_ble_eq_true rfl) ⟨Nat.zero_le _, Nat.zero_le _⟩ dX11_clock_34 (fun H locs hP hD hS => ?_)
    refine lv_sipush (v := (1440 : Int32)) hx hb dX11_clock_37 (by decide) ?_
    refine lv_imul hx hb dX11_clock_40 ?_
    refine lv_iload hx hb dX11_clock_41 (lv_at hl 4 rfl) ?_
    refine lv_bipush (v := (120 : Int32)) hx hb dX11_clock_43 (by decide) ?_
    refine lv_imul hx hb dX11_clock_45 ?_
    refine lv_iadd hx hb dX11_clock_46 ?_
    refine lv_bipush (v := (60 : Int32)) hx hb dX11_clock_47 (by decide) ?_
    refine lv_isub hx hb dX11_clock_49 ?_
    cases hf
    exact m_iret hx hb hr hlocks hP hS dX11_clock_50
  have hf := pbr_t c_6 hf
  refine lv_ldc (v := (-1000000 : Int32)) hx hb hown (hts _ hw_X11_clock_c163) dX11_clock_24 ?_
  cases hf
  exact m_iret hx hb hr hlocks hP hS dX11_clock_26

/-! ===== OrphanWave.told(II)I ===== -/
abbrev rm_X11_told : Room := { frames := 2, cells := 0, slots := 0, locals := 46 }
abbrev wx_X11_told (a0 : Nat) (q_calendar : Nat) (q_calendar_months : Nat) (q_calendar_lengths : Nat) (q_text : Nat) (q_ocean : Nat) (q_trees : Nat) (q_found : Nat) (q_images : Nat) (q_search : Nat) (q_stories : Nat) (q_signs : Nat) (q_draft : Nat) (r_calendar_lengths : Nat → Nat) (cA : Nat → ClassId) (s_yearOfNow : Int32) (s_calendar_years : Int32) (s_calendar_months : Nat → Int32) (s_calendar_lengths : Nat → Nat → Int32) : va_W := [(a0, .inr (11, [.ref q_text, .ref q_ocean, .ref q_trees, .ref q_found, .ref q_images, .ref q_search, .ref q_stories, .ref q_signs, .ref q_calendar, .ref q_draft, .int s_yearOfNow])), (q_calendar, .inr (1, [.ref q_calendar_lengths, .ref q_calendar_months, .int s_calendar_years])), (q_calendar_months, .inl (cA 1, 8, .inl s_calendar_months)), (q_calendar_lengths, .inl (cA 5, 8, .inr (.inr (.inr (.inr (gro 8 r_calendar_lengths))))))]
abbrev w_X11_told (a0 : Nat) (q_calendar : Nat) (q_calendar_months : Nat) (q_calendar_lengths : Nat) (q_text : Nat) (q_ocean : Nat) (q_trees : Nat) (q_found : Nat) (q_images : Nat) (q_search : Nat) (q_stories : Nat) (q_signs : Nat) (q_draft : Nat) (r_calendar_lengths : Nat → Nat) (cA : Nat → ClassId) (s_yearOfNow : Int32) (s_calendar_years : Int32) (s_calendar_months : Nat → Int32) (s_calendar_lengths : Nat → Nat → Int32) : va_W := [(a0, .inr (11, [.ref q_text, .ref q_ocean, .ref q_trees, .ref q_found, .ref q_images, .ref q_search, .ref q_stories, .ref q_signs, .ref q_calendar, .ref q_draft, .int s_yearOfNow])), (q_calendar, .inr (1, [.ref q_calendar_lengths, .ref q_calendar_months, .int s_calendar_years])), (q_calendar_months, .inl (cA 1, 8, .inl s_calendar_months)), (q_calendar_lengths, .inl (cA 5, 8, .inr (.inr (.inr (.inr (gro 8 r_calendar_lengths))))))] ++ grw 8 r_calendar_lengths (cA 1) 13 s_calendar_lengths
theorem hn_X11_told_X11 : ∀ w ∈ u_ws RX11 TX11 11, w ∈ wsX11_told := by decide +kernel
theorem hw_X11_told_c163 : Cond.constant RX11 163 (-1000000) ∈ wsX11_told := by decide +kernel
theorem hw_X11_told_c189 : Cond.constantLong RX11 189 (60) ∈ wsX11_told := by decide +kernel
theorem hw_X11_told_c191 : Cond.constantLong RX11 191 (1440) ∈ wsX11_told := by decide +kernel
theorem hw_X11_told_f73 : Cond.fieldLink RX11 73 "OrphanWave" "calendar" "LOrphanWave$Calendar;" ∈ wsX11_told := by decide +kernel
theorem hw_X11_told_c196 : Cond.constantLong RX11 196 (120) ∈ wsX11_told := by decide +kernel

def f_X11_told (x1 : Int32) (x2 : Int32) (s_calendar_years : Int32) (s_calendar_months : Nat → Int32) (s_calendar_lengths : Nat → Nat → Int32) : Option ((Int32)) :=
  pcl (f_X11_within x2 (0 : Int32) (3 : Int32)) (fun r_1 => (
  pbr (r_1 = 0)
    (some ((-1000000 : Int32)))
    (pbr ((-60 : Int32) ≤ x1)
      (plt ((x1.toInt64 + (60 : Int64)) : Int64) (fun x3_5 => (
      plt ((x3_5 / (1440 : Int64)) : Int64) (fun x5_6 => (
      pcl (f_X1_allDays s_calendar_years s_calendar_months s_calendar_lengths) (fun r_7 => (
      pbr ((lg_cmp x5_6 r_7.toInt64) < 0)
        (pbr (x2 = (3 : Int32))
          (some (((x3_5 - x3_5 / (1440 : Int64) * (1440 : Int64)) / (120 : Int64)).toInt32))
          (pcl (f_X1_partOfDay x5_6.toInt32 x2 s_calendar_years s_calendar_months s_calendar_lengths) (fun r_11 => (
          some (r_11)))))
        (some ((-1000000 : Int32))))))))))
      (some ((-1000000 : Int32))))))

set_option maxRecDepth 100000 in
set_option maxHeartbeats 4000000 in
theorem ct_X11_told (l : Launch) (D : va_G) (cA : Nat → ClassId) (x1 : Int32) (x2 : Int32) (a0 : Nat) (q_calendar : Nat) (q_calendar_months : Nat) (q_calendar_lengths : Nat) (q_text : Nat) (q_ocean : Nat) (q_trees : Nat) (q_found : Nat) (q_images : Nat) (q_search : Nat) (q_stories : Nat) (q_signs : Nat) (q_draft : Nat) (r_calendar_lengths : Nat → Nat) (s_yearOfNow : Int32) (s_calendar_years : Int32) (s_calendar_months : Nat → Int32) (s_calendar_lengths : Nat → Nat → Int32) (o_r : Int32) (hf : f_X11_told x1 x2 s_calendar_years s_calendar_months s_calendar_lengths = some o_r) : CT l yX11_told wsX11_told rm_X11_told D cA [.ref a0, .int x1, .int x2] (w_X11_told a0 q_calendar q_calendar_months q_calendar_lengths q_text q_ocean q_trees q_found q_images q_search q_stories q_signs q_draft r_calendar_lengths cA s_yearOfNow s_calendar_years s_calendar_months s_calendar_lengths) (w_X11_told a0 q_calendar q_calendar_months q_calendar_lengths q_text q_ocean q_trees q_found q_images q_search q_stories q_signs q_draft r_calendar_lengths cA s_yearOfNow s_calendar_years s_calendar_months s_calendar_lengths) (some (.int o_r)) := by
  refine CT.ofW (cc := cX11_told) (maxL := 7) (ret := (some .int)) (by decide +kernel) rfl (Nat.le_of_ble_eq_true rfl) ?_
  intro p e s m below meth c A C0 hA hP hD ls hl
  have C0 : MX p s m [.ref a0, .int x1, .int x2].toArray meth c cX11_told 7 wsX11_told RX11 (some .int) D cA := C0
  have hl : lv_has ls 7 [(0, .ref a0), (1, .int x1), (2, .int x2)] := hl
  obtain ⟨hx, hb, hml, hown, hts, hr, hlocks, hX⟩ := id C0
  have hK := hX.1
  have hN := hX.2
  have hS : va_S A s.heap s.heap [] := va_S.rf
  unfold f_X11_told at hf
  refine lv_iload_n hx hb dX11_told_0 rfl (lv_at hl 2 rfl) ?_
  refine lv_iconst (v := (0 : Int32)) hx hb dX11_told_1 (by decide) ?_
  refine lv_iconst (v := (3 : Int32)) hx hb dX11_told_2 (by decide) ?_
  obtain ⟨r_1, hc_2, hf⟩ := pcl_e hf
  refine m_callS (As := [.int x2, .int (0 : Int32), .int (3 : Int32)]) (rest := []) ⟨hx, hb, hml, hown, hts⟩ hX (ct_X11_within l D cA x2 (0 : Int32) (3 : Int32) r_1 hc_2) (va_cwS 3 hts gX11_told_X11_within rfl rfl rfl (by decide +kernel) ⟨Nat.le_of_ble_eq_true rfl, Nat.le_of_ble_eq_true rfl⟩) hP hD hS hA [] (by decide) rfl rfl (WS' := (w_X11_told a0 q_calendar q_calendar_months q_calendar_lengths q_text q_ocean q_trees q_found q_images q_search q_stories q_signs q_draft r_calendar_lengths cA s_yearOfNow s_calendar_years s_calendar_months s_calendar_lengths)) rfl rfl hl.1 rfl (st' := [.int r_1]) rfl (Nat.le_of_ble_eq_true rfl) ⟨Nat.zero_le _, Nat.zero_le _⟩ dX11_told_3 (fun H locs hP hD hS => ?_)
  refine lv_if_eq (tgt := 15) hx hb dX11_told_6 (by decide) (fun c_3 => ?_) (fun c_3 => ?_)
  · have hf := pbr_t c_3 hf
    refine lv_ldc (v := (-1000000 : Int32)) hx hb hown (hts _ hw_X11_told_c163) dX11_told_15 ?_
    cases hf
    exact m_iret hx hb hr hlocks hP hS dX11_told_17
  have hf := pbr_f c_3 hf
  refine lv_iload_n hx hb dX11_told_9 rfl (lv_at hl 1 rfl) ?_
  refine lv_bipush (v := (-60 : Int32)) hx hb dX11_told_10 (by decide) ?_
  refine lv_icmp_ge (tgt := 18) hx hb dX11_told_12 (by decide) (fun c_4 => ?_) (fun c_4 => ?_)
  · have hf := pbr_t c_4 hf
    refine lv_iload_n hx hb dX11_told_18 rfl (lv_at hl 1 rfl) ?_
    refine lv_i2l hx hb dX11_told_19 rfl ?_
    refine lv_ldc2 (v := (60 : Int64)) hx hb hown (hts _ hw_X11_told_c189) dX11_told_20 ?_
    refine lv_ladd hx hb dX11_told_23 ?_
    refine lv_topl (fun x3_5 ex3_5 => ?_)
    have hf := plt_e ex3_5 hf
    refine lv_lstore_n (lv' := [(3, .long x3_5), (0, .ref a0), (1, .int x1), (2, .int x2)]) hx hb dX11_told_24 rfl hl (by decide) rfl (fun ls hl => ?_)
    refine lv_lload_n hx hb dX11_told_25 rfl (lv_at hl 0 rfl) ?_
    refine lv_ldc2 (v := (1440 : Int64)) hx hb hown (hts _ hw_X11_told_c191) dX11_told_26 ?_
    refine lv_ldiv hx hb dX11_told_29 (by decide) ?_
    refine lv_topl (fun x5_6 ex5_6 => ?_)
    have hf := plt_e ex5_6 hf
    refine lv_lstore (lv' := [(5, .long x5_6), (3, .long x3_5), (0, .ref a0), (1, .int x1), (2, .int x2)]) hx hb dX11_told_30 hl (by decide) rfl (fun ls hl => ?_)
    refine lv_lload hx hb dX11_told_32 (lv_at hl 0 rfl) ?_
    refine lv_aload_n hx hb dX11_told_34 rfl (lv_at hl 2 rfl) ?_
    refine va_get (D := D) (ci := 11) (v := .ref q_calendar) (C := RX11) (T := TX11) (N := 11) hx hb hts hn_X11_told_X11 hown hK hP 0 rfl rfl 8 (by decide) (hts _ hw_X11_told_f73) (fun _ h9 => h9) rfl dX11_told_35 ?_
    obtain ⟨r_7, hc_8, hf⟩ := pcl_e hf
    refine m_callV (As := []) (rest := [.long x5_6]) ⟨hx, hb, hml, hown, hts⟩ hX (ct_X1_allDays l D cA q_calendar q_calendar_months q_calendar_lengths r_calendar_lengths s_calendar_years s_calendar_months s_calendar_lengths r_7 hc_8) (cwV 0 hts gX11_told_X1_allDays rfl rfl rfl (by decide +kernel) ⟨Nat.le_of_ble_eq_true rfl, Nat.le_of_ble_eq_true rfl⟩) hP hD hS hA [1, 2, 3, 4, 5, 6, 7, 8, 9, 10, 11] (by decide) rfl rfl (WS' := (w_X11_told a0 q_calendar q_calendar_months q_calendar_lengths q_text q_ocean q_trees q_found q_images q_search q_stories q_signs q_draft r_calendar_lengths cA s_yearOfNow s_calendar_years s_calendar_months s_calendar_lengths)) rfl 1 1 rfl rfl rfl hl.1 rfl (st' := [.int r_7, .long x5_6]) rfl (Nat.le_of_ble_eq_true rfl) ⟨Nat.zero_le _, Nat.zero_le _⟩ dX11_told_38 (fun H locs hP hD hS => ?_)
    refine lv_i2l hx hb dX11_told_41 rfl ?_
    refine W.lcmp hx hb dX11_told_42 ?_
    refine lv_if_lt (tgt := 49) hx hb dX11_told_43 (by decide) (fun c_9 => ?_) (fun c_9 => ?_)
    · have hf := pbr_t c_9 hf
      refine lv_iload_n hx hb dX11_told_49 rfl (lv_at hl 4 rfl) ?_
      refine lv_iconst (v := (3 : Int32)) hx hb dX11_told_50 (by decide) ?_
      refine lv_icmp_ne (tgt := 65) hx hb dX11_told_51 (by decide) (fun c_10 => ?_) (fun c_10 => ?_)
      · have hf := pbr_f c_10 hf
        refine lv_aload_n hx hb dX11_told_65 rfl (lv_at hl 2 rfl) ?_
        refine va_get (D := D) (ci := 11) (v := .ref q_calendar) (C := RX11) (T := TX11) (N := 11) hx hb hts hn_X11_told_X11 hown hK hP 0 rfl rfl 8 (by decide) (hts _ hw_X11_told_f73) (fun _ h9 => h9) rfl dX11_told_66 ?_
        refine lv_lload hx hb dX11_told_69 (lv_at hl 0 rfl) ?_
        refine lv_l2i hx hb dX11_told_71 rfl ?_
        refine lv_iload_n hx hb dX11_told_72 rfl (lv_at hl 4 rfl) ?_
        obtain ⟨r_11, hc_12, hf⟩ := pcl_e hf
        refine m_callV (As := [.int x5_6.toInt32, .int x2]) (rest := []) ⟨hx, hb, hml, hown, hts⟩ hX (ct_X1_partOfDay l D cA x5_6.toInt32 x2 q_calendar q_calendar_months q_calendar_lengths r_calendar_lengths s_calendar_years s_calendar_months s_calendar_lengths r_11 hc_12) (cwV 2 hts gX11_told_X1_partOfDay rfl rfl rfl (by decide +kernel) ⟨Nat.le_of_ble_eq_true rfl, Nat.le_of_ble_eq_true rfl⟩) hP hD hS hA [1, 2, 3, 4, 5, 6, 7, 8, 9, 10, 11] (by decide) rfl rfl (WS' := (w_X11_told a0 q_calendar q_calendar_months q_calendar_lengths q_text q_ocean q_trees q_found q_images q_search q_stories q_signs q_draft r_calendar_lengths cA s_yearOfNow s_calendar_years s_calendar_months s_calendar_lengths)) rfl 1 1 rfl rfl rfl hl.1 rfl (st' := [.int r_11]) rfl (Nat.le_of_ble_eq_true rfl) ⟨Nat.zero_le _, Nat.zero_le _⟩ dX11_told_73 (fun H locs hP hD hS => ?_)
        cases hf
        exact m_iret hx hb hr hlocks hP hS dX11_told_76
      have hf := pbr_t c_10 hf
      refine lv_lload_n hx hb dX11_told_54 rfl (lv_at hl 1 rfl) ?_
      refine lv_ldc2 (v := (1440 : Int64)) hx hb hown (hts _ hw_X11_told_c191) dX11_told_55 ?_
      refine lv_lrem hx hb dX11_told_58 (by decide) ?_
      refine lv_ldc2 (v := (120 : Int64)) hx hb hown (hts _ hw_X11_told_c196) dX11_told_59 ?_
      refine lv_ldiv hx hb dX11_told_62 (by decide) ?_
      refine lv_l2i hx hb dX11_told_63 rfl ?_
      cases hf
      exact m_iret hx hb hr hlocks hP hS dX11_told_64
    have hf := pbr_f c_9 hf
    refine lv_ldc (v := (-1000000 : Int32)) hx hb hown (hts _ hw_X11_told_c163) dX11_told_46 ?_
    cases hf
    exact m_iret hx hb hr hlocks hP hS dX11_told_48
  have hf := pbr_f c_4 hf
  refine lv_ldc (v := (-1000000 : Int32)) hx hb hown (hts _ hw_X11_told_c163) dX11_told_15 ?_
  cases hf
  exact m_iret hx hb hr hlocks hP hS dX11_told_17

/-! ===== OrphanWave.ring(I)I ===== -/
abbrev rm_X11_ring : Room := { frames := 2, cells := 0, slots := 0, locals := 42 }
abbrev w_X11_ring (a0 : Nat) (q_trees : Nat) (q_trees_livingRings : Nat) (q_text : Nat) (q_ocean : Nat) (q_found : Nat) (q_images : Nat) (q_search : Nat) (q_stories : Nat) (q_signs : Nat) (q_calendar : Nat) (q_draft : Nat) (q_trees_woodRings : Nat) (q_trees_woodCounts : Nat) (q_trees_ends : Nat) (cA : Nat → ClassId) (s_yearOfNow : Int32) (s_trees_livingCount : Int32) (s_trees_firstYear : Int32) (s_trees_livingRings : Nat → Int32) : va_W := [(a0, .inr (11, [.ref q_text, .ref q_ocean, .ref q_trees, .ref q_found, .ref q_images, .ref q_search, .ref q_stories, .ref q_signs, .ref q_calendar, .ref q_draft, .int s_yearOfNow])), (q_trees, .inr (10, [.ref q_trees_livingRings, .ref q_trees_woodRings, .ref q_trees_woodCounts, .ref q_trees_ends, .int s_trees_livingCount, .int s_trees_firstYear])), (q_trees_livingRings, .inl (cA 1, 60, .inl s_trees_livingRings))]
theorem hn_X11_ring_X11 : ∀ w ∈ u_ws RX11 TX11 11, w ∈ wsX11_ring := by decide +kernel
theorem hn_X11_ring_X10 : ∀ w ∈ u_ws RX10 TX10 6, w ∈ wsX11_ring := by decide +kernel
theorem hw_X11_ring_f26 : Cond.fieldLink RX11 26 "OrphanWave" "trees" "LOrphanWave$Trees;" ∈ wsX11_ring := by decide +kernel

def f_X11_ring (x1 : Int32) (s_trees_livingCount : Int32) (s_trees_livingRings : Nat → Int32) : Option ((Int32) × (Int32) × (Nat → Int32)) :=
  pcl (f_X11_isWidth x1) (fun r_1 => (
  pbr (r_1 = 0)
    (some ((-1 : Int32), s_trees_livingCount, s_trees_livingRings))
    (pbr (s_trees_livingCount < (60 : Int32))
      (pcl (f_X10_grow x1 s_trees_livingCount s_trees_livingRings) (fun (r_5, livingCount_6, livingRings_7) => (
      some (r_5, livingCount_6, livingRings_7))))
      (some ((-3 : Int32), s_trees_livingCount, s_trees_livingRings)))))

set_option maxRecDepth 100000 in
set_option maxHeartbeats 4000000 in
theorem ct_X11_ring (l : Launch) (D : va_G) (cA : Nat → ClassId) (x1 : Int32) (a0 : Nat) (q_trees : Nat) (q_trees_livingRings : Nat) (q_text : Nat) (q_ocean : Nat) (q_found : Nat) (q_images : Nat) (q_search : Nat) (q_stories : Nat) (q_signs : Nat) (q_calendar : Nat) (q_draft : Nat) (q_trees_woodRings : Nat) (q_trees_woodCounts : Nat) (q_trees_ends : Nat) (s_yearOfNow : Int32) (s_trees_livingCount : Int32) (s_trees_firstYear : Int32) (s_trees_livingRings : Nat → Int32) (o_r : Int32) (o_trees_livingCount : Int32) (o_trees_livingRings : Nat → Int32) (hf : f_X11_ring x1 s_trees_livingCount s_trees_livingRings = some (o_r, o_trees_livingCount, o_trees_livingRings)) : CT l yX11_ring wsX11_ring rm_X11_ring D cA [.ref a0, .int x1] (w_X11_ring a0 q_trees q_trees_livingRings q_text q_ocean q_found q_images q_search q_stories q_signs q_calendar q_draft q_trees_woodRings q_trees_woodCounts q_trees_ends cA s_yearOfNow s_trees_livingCount s_trees_firstYear s_trees_livingRings) (w_X11_ring a0 q_trees q_trees_livingRings q_text q_ocean q_found q_images q_search q_stories q_signs q_calendar q_draft q_trees_woodRings q_trees_woodCounts q_trees_ends cA s_yearOfNow o_trees_livingCount s_trees_firstYear o_trees_livingRings) (some (.int o_r)) := by
  refine CT.ofW (cc := cX11_ring) (maxL := 2) (ret := (some .int)) (by decide +kernel) rfl (Nat.le_of_ble_eq_true rfl) ?_
  intro p e s m below meth c A C0 hA hP hD ls hl
  have C0 : MX p s m [.ref a0, .int x1].toArray meth c cX11_ring 2 wsX11_ring RX11 (some .int) D cA := C0
  have hl : lv_has ls 2 [(0, .ref a0), (1, .int x1)] := hl
  obtain ⟨hx, hb, hml, hown, hts, hr, hlocks, hX⟩ := id C0
  have hK := hX.1
  have hN := hX.2
  have hS : va_S A s.heap s.heap [] := va_S.rf
  unfold f_X11_ring at hf
  refine lv_iload_n hx hb dX11_ring_0 rfl (lv_at hl 1 rfl) ?_
  obtain ⟨r_1, hc_2, hf⟩ := pcl_e hf
  refine m_callS (As := [.int x1]) (rest := []) ⟨hx, hb, hml, hown, hts⟩ hX (ct_X11_isWidth l D cA x1 r_1 hc_2) (va_cwS 1 hts gX11_ring_X11_isWidth rfl rfl rfl (by decide +kernel) ⟨Nat.le_of_ble_eq_true rfl, Nat.le_of_ble_eq_true rfl⟩) hP hD hS hA [] (by decide) rfl rfl (WS' := (w_X11_ring a0 q_trees q_trees_livingRings q_text q_ocean q_found q_images q_search q_stories q_signs q_calendar q_draft q_trees_woodRings q_trees_woodCounts q_trees_ends cA s_yearOfNow s_trees_livingCount s_trees_firstYear s_trees_livingRings)) rfl rfl hl.1 rfl (st' := [.int r_1]) rfl (Nat.le_of_ble_eq_true rfl) ⟨Nat.zero_le _, Nat.zero_le _⟩ dX11_ring_1 (fun H locs hP hD hS => ?_)
  refine lv_if_ne (tgt := 9) hx hb dX11_ring_4 (by decide) (fun c_3 => ?_) (fun c_3 => ?_)
  · have hf := pbr_f c_3 hf
    refine lv_aload_n hx hb dX11_ring_9 rfl (lv_at hl 0 rfl) ?_
    refine va_get (D := D) (ci := 11) (v := .ref q_trees) (C := RX11) (T := TX11) (N := 11) hx hb hts hn_X11_ring_X11 hown hK hP 0 rfl rfl 2 (by decide) (hts _ hw_X11_ring_f26) (fun _ h9 => h9) rfl dX11_ring_10 ?_
    refine va_getN (D := D) (ci := 10) (v := .int s_trees_livingCount) (C := RX10) (T := TX10) (N := 6) hx hb hts hn_X11_ring_X10 hown hK hP 1 rfl rfl 4 (by decide) (va_Nw.use rfl (hN _ nw_X11_204)) (fun _ h9 => h9) rfl dX11_ring_13 ?_
    refine lv_bipush (v := (60 : Int32)) hx hb dX11_ring_16 (by decide) ?_
    refine lv_icmp_lt (tgt := 26) hx hb dX11_ring_18 (by decide) (fun c_4 => ?_) (fun c_4 => ?_)
    · have hf := pbr_t c_4 hf
      refine lv_aload_n hx hb dX11_ring_26 rfl (lv_at hl 0 rfl) ?_
      refine va_get (D := D) (ci := 11) (v := .ref q_trees) (C := RX11) (T := TX11) (N := 11) hx hb hts hn_X11_ring_X11 hown hK hP 0 rfl rfl 2 (by decide) (hts _ hw_X11_ring_f26) (fun _ h9 => h9) rfl dX11_ring_27 ?_
      refine lv_iload_n hx hb dX11_ring_30 rfl (lv_at hl 1 rfl) ?_
      obtain ⟨⟨r_5, livingCount_6, livingRings_7⟩, hc_8, hf⟩ := pcl_e hf
      refine m_callV (As := [.int x1]) (rest := []) ⟨hx, hb, hml, hown, hts⟩ hX (ct_X10_grow l D cA x1 q_trees q_trees_livingRings q_trees_woodRings q_trees_woodCounts q_trees_ends s_trees_livingCount s_trees_firstYear s_trees_livingRings r_5 livingCount_6 livingRings_7 hc_8) (cwV 1 hts gX11_ring_X10_grow rfl rfl rfl (by decide +kernel) ⟨Nat.le_of_ble_eq_true rfl, Nat.le_of_ble_eq_true rfl⟩) hP hD hS hA [1, 2] (by decide) rfl rfl (WS' := (w_X11_ring a0 q_trees q_trees_livingRings q_text q_ocean q_found q_images q_search q_stories q_signs q_calendar q_draft q_trees_woodRings q_trees_woodCounts q_trees_ends cA s_yearOfNow livingCount_6 s_trees_firstYear livingRings_7)) rfl 1 10 rfl rfl rfl hl.1 rfl (st' := [.int r_5]) rfl (Nat.le_of_ble_eq_true rfl) ⟨Nat.zero_le _, Nat.zero_le _⟩ dX11_ring_31 (fun H locs hP hD hS => ?_)
      cases hf
      exact m_iret hx hb hr hlocks hP hS dX11_ring_34
    have hf := pbr_f c_4 hf
    refine lv_bipush (v := (-3 : Int32)) hx hb dX11_ring_21 (by decide) ?_
    refine lv_goto (tgt := 34) hx hb dX11_ring_23 (by decide) ?_
    cases hf
    exact m_iret hx hb hr hlocks hP hS dX11_ring_34
  have hf := pbr_t c_3 hf
  refine lv_iconst (v := (-1 : Int32)) hx hb dX11_ring_7 (by decide) ?_
  cases hf
  exact m_iret hx hb hr hlocks hP hS dX11_ring_8

/-! ===== OrphanWave.living(I)I ===== -/
abbrev rm_X11_living : Room := { frames := 2, cells := 0, slots := 0, locals := 42 }
abbrev w_X11_living (a0 : Nat) (q_trees : Nat) (q_text : Nat) (q_ocean : Nat) (q_found : Nat) (q_images : Nat) (q_search : Nat) (q_stories : Nat) (q_signs : Nat) (q_calendar : Nat) (q_draft : Nat) (q_trees_livingRings : Nat) (q_trees_woodRings : Nat) (q_trees_woodCounts : Nat) (q_trees_ends : Nat) (cA : Nat → ClassId) (s_yearOfNow : Int32) (s_trees_livingCount : Int32) (s_trees_firstYear : Int32) : va_W := [(a0, .inr (11, [.ref q_text, .ref q_ocean, .ref q_trees, .ref q_found, .ref q_images, .ref q_search, .ref q_stories, .ref q_signs, .ref q_calendar, .ref q_draft, .int s_yearOfNow])), (q_trees, .inr (10, [.ref q_trees_livingRings, .ref q_trees_woodRings, .ref q_trees_woodCounts, .ref q_trees_ends, .int s_trees_livingCount, .int s_trees_firstYear]))]
theorem hn_X11_living_X11 : ∀ w ∈ u_ws RX11 TX11 11, w ∈ wsX11_living := by decide +kernel
theorem hw_X11_living_f26 : Cond.fieldLink RX11 26 "OrphanWave" "trees" "LOrphanWave$Trees;" ∈ wsX11_living := by decide +kernel

def f_X11_living (x1 : Int32) (s_trees_livingCount : Int32) (s_trees_firstYear : Int32) : Option ((Int32) × (Int32) × (Int32)) :=
  pcl (f_X11_isYear x1) (fun r_1 => (
  pbr (r_1 = 0)
    (some ((-1 : Int32), s_trees_livingCount, s_trees_firstYear))
    (pcl (f_X10_plant x1 s_trees_livingCount s_trees_firstYear) (fun (r_4, livingCount_5, firstYear_6) => (
    some (r_4, livingCount_5, firstYear_6))))))

set_option maxRecDepth 100000 in
set_option maxHeartbeats 4000000 in
theorem ct_X11_living (l : Launch) (D : va_G) (cA : Nat → ClassId) (x1 : Int32) (a0 : Nat) (q_trees : Nat) (q_text : Nat) (q_ocean : Nat) (q_found : Nat) (q_images : Nat) (q_search : Nat) (q_stories : Nat) (q_signs : Nat) (q_calendar : Nat) (q_draft : Nat) (q_trees_livingRings : Nat) (q_trees_woodRings : Nat) (q_trees_woodCounts : Nat) (q_trees_ends : Nat) (s_yearOfNow : Int32) (s_trees_livingCount : Int32) (s_trees_firstYear : Int32) (o_r : Int32) (o_trees_livingCount : Int32) (o_trees_firstYear : Int32) (hf : f_X11_living x1 s_trees_livingCount s_trees_firstYear = some (o_r, o_trees_livingCount, o_trees_firstYear)) : CT l yX11_living wsX11_living rm_X11_living D cA [.ref a0, .int x1] (w_X11_living a0 q_trees q_text q_ocean q_found q_images q_search q_stories q_signs q_calendar q_draft q_trees_livingRings q_trees_woodRings q_trees_woodCounts q_trees_ends cA s_yearOfNow s_trees_livingCount s_trees_firstYear) (w_X11_living a0 q_trees q_text q_ocean q_found q_images q_search q_stories q_signs q_calendar q_draft q_trees_livingRings q_trees_woodRings q_trees_woodCounts q_trees_ends cA s_yearOfNow o_trees_livingCount o_trees_firstYear) (some (.int o_r)) := by
  refine CT.ofW (cc := cX11_living) (maxL := 2) (ret := (some .int)) (by decide +kernel) rfl (Nat.le_of_ble_eq_true rfl) ?_
  intro p e s m below meth c A C0 hA hP hD ls hl
  have C0 : MX p s m [.ref a0, .int x1].toArray meth c cX11_living 2 wsX11_living RX11 (some .int) D cA := C0
  have hl : lv_has ls 2 [(0, .ref a0), (1, .int x1)] := hl
  obtain ⟨hx, hb, hml, hown, hts, hr, hlocks, hX⟩ := id C0
  have hK := hX.1
  have hN := hX.2
  have hS : va_S A s.heap s.heap [] := va_S.rf
  unfold f_X11_living at hf
  refine lv_iload_n hx hb dX11_living_0 rfl (lv_at hl 1 rfl) ?_
  obtain ⟨r_1, hc_2, hf⟩ := pcl_e hf
  refine m_callS (As := [.int x1]) (rest := []) ⟨hx, hb, hml, hown, hts⟩ hX (ct_X11_isYear l D cA x1 r_1 hc_2) (va_cwS 1 hts gX11_living_X11_isYear rfl rfl rfl (by decide +kernel) ⟨Nat.le_of_ble_eq_true rfl, Nat.le_of_ble_eq_true rfl⟩) hP hD hS hA [] (by decide) rfl rfl (WS' := (w_X11_living a0 q_trees q_text q_ocean q_found q_images q_search q_stories q_signs q_calendar q_draft q_trees_livingRings q_trees_woodRings q_trees_woodCounts q_trees_ends cA s_yearOfNow s_trees_livingCount s_trees_firstYear)) rfl rfl hl.1 rfl (st' := [.int r_1]) rfl (Nat.le_of_ble_eq_true rfl) ⟨Nat.zero_le _, Nat.zero_le _⟩ dX11_living_1 (fun H locs hP hD hS => ?_)
  refine lv_if_eq (tgt := 18) hx hb dX11_living_4 (by decide) (fun c_3 => ?_) (fun c_3 => ?_)
  · have hf := pbr_t c_3 hf
    refine lv_iconst (v := (-1 : Int32)) hx hb dX11_living_18 (by decide) ?_
    cases hf
    exact m_iret hx hb hr hlocks hP hS dX11_living_19
  have hf := pbr_f c_3 hf
  refine lv_aload_n hx hb dX11_living_7 rfl (lv_at hl 0 rfl) ?_
  refine va_get (D := D) (ci := 11) (v := .ref q_trees) (C := RX11) (T := TX11) (N := 11) hx hb hts hn_X11_living_X11 hown hK hP 0 rfl rfl 2 (by decide) (hts _ hw_X11_living_f26) (fun _ h9 => h9) rfl dX11_living_8 ?_
  refine lv_iload_n hx hb dX11_living_11 rfl (lv_at hl 1 rfl) ?_
  obtain ⟨⟨r_4, livingCount_5, firstYear_6⟩, hc_7, hf⟩ := pcl_e hf
  refine m_callV (As := [.int x1]) (rest := []) ⟨hx, hb, hml, hown, hts⟩ hX (ct_X10_plant l D cA x1 q_trees q_trees_livingRings q_trees_woodRings q_trees_woodCounts q_trees_ends s_trees_livingCount s_trees_firstYear r_4 livingCount_5 firstYear_6 hc_7) (cwV 1 hts gX11_living_X10_plant rfl rfl rfl (by decide +kernel) ⟨Nat.le_of_ble_eq_true rfl, Nat.le_of_ble_eq_true rfl⟩) hP hD hS hA [1] (by decide) rfl rfl (WS' := (w_X11_living a0 q_trees q_text q_ocean q_found q_images q_search q_stories q_signs q_calendar q_draft q_trees_livingRings q_trees_woodRings q_trees_woodCounts q_trees_ends cA s_yearOfNow livingCount_5 firstYear_6)) rfl 1 10 rfl rfl rfl hl.1 rfl (st' := [.int r_4]) rfl (Nat.le_of_ble_eq_true rfl) ⟨Nat.zero_le _, Nat.zero_le _⟩ dX11_living_12 (fun H locs hP hD hS => ?_)
  refine lv_goto (tgt := 19) hx hb dX11_living_15 (by decide) ?_
  cases hf
  exact m_iret hx hb hr hlocks hP hS dX11_living_19

/-! ===== OrphanWave.wood(II)I ===== -/
abbrev rm_X11_wood : Room := { frames := 2, cells := 0, slots := 0, locals := 42 }
abbrev wx_X11_wood (a0 : Nat) (q_trees : Nat) (q_trees_woodCounts : Nat) (q_trees_woodRings : Nat) (q_text : Nat) (q_ocean : Nat) (q_found : Nat) (q_images : Nat) (q_search : Nat) (q_stories : Nat) (q_signs : Nat) (q_calendar : Nat) (q_draft : Nat) (q_trees_livingRings : Nat) (q_trees_ends : Nat) (r_trees_woodRings : Nat → Nat) (cA : Nat → ClassId) (s_yearOfNow : Int32) (s_trees_livingCount : Int32) (s_trees_firstYear : Int32) (s_trees_woodCounts : Nat → Int32) (s_trees_woodRings : Nat → Nat → Int32) : va_W := [(a0, .inr (11, [.ref q_text, .ref q_ocean, .ref q_trees, .ref q_found, .ref q_images, .ref q_search, .ref q_stories, .ref q_signs, .ref q_calendar, .ref q_draft, .int s_yearOfNow])), (q_trees, .inr (10, [.ref q_trees_livingRings, .ref q_trees_woodRings, .ref q_trees_woodCounts, .ref q_trees_ends, .int s_trees_livingCount, .int s_trees_firstYear])), (q_trees_woodCounts, .inl (cA 1, 4, .inl s_trees_woodCounts)), (q_trees_woodRings, .inl (cA 5, 4, .inr (.inr (.inr (.inr (gro 4 r_trees_woodRings))))))]
abbrev w_X11_wood (a0 : Nat) (q_trees : Nat) (q_trees_woodCounts : Nat) (q_trees_woodRings : Nat) (q_text : Nat) (q_ocean : Nat) (q_found : Nat) (q_images : Nat) (q_search : Nat) (q_stories : Nat) (q_signs : Nat) (q_calendar : Nat) (q_draft : Nat) (q_trees_livingRings : Nat) (q_trees_ends : Nat) (r_trees_woodRings : Nat → Nat) (cA : Nat → ClassId) (s_yearOfNow : Int32) (s_trees_livingCount : Int32) (s_trees_firstYear : Int32) (s_trees_woodCounts : Nat → Int32) (s_trees_woodRings : Nat → Nat → Int32) : va_W := [(a0, .inr (11, [.ref q_text, .ref q_ocean, .ref q_trees, .ref q_found, .ref q_images, .ref q_search, .ref q_stories, .ref q_signs, .ref q_calendar, .ref q_draft, .int s_yearOfNow])), (q_trees, .inr (10, [.ref q_trees_livingRings, .ref q_trees_woodRings, .ref q_trees_woodCounts, .ref q_trees_ends, .int s_trees_livingCount, .int s_trees_firstYear])), (q_trees_woodCounts, .inl (cA 1, 4, .inl s_trees_woodCounts)), (q_trees_woodRings, .inl (cA 5, 4, .inr (.inr (.inr (.inr (gro 4 r_trees_woodRings))))))] ++ grw 4 r_trees_woodRings (cA 1) 30 s_trees_woodRings
theorem hn_X11_wood_X11 : ∀ w ∈ u_ws RX11 TX11 11, w ∈ wsX11_wood := by decide +kernel
theorem hn_X11_wood_X10 : ∀ w ∈ u_ws RX10 TX10 6, w ∈ wsX11_wood := by decide +kernel
theorem hw_X11_wood_f26 : Cond.fieldLink RX11 26 "OrphanWave" "trees" "LOrphanWave$Trees;" ∈ wsX11_wood := by decide +kernel

def f_X11_wood (x1 : Int32) (x2 : Int32) (s_trees_woodCounts : Nat → Int32) (s_trees_woodRings : Nat → Nat → Int32) : Option ((Int32) × (Nat → Int32) × (Nat → Nat → Int32)) :=
  pcl (f_X11_isWood x1) (fun r_1 => (
  pbr (r_1 = 0)
    (some ((-1 : Int32), s_trees_woodCounts, s_trees_woodRings))
    (pcl (f_X11_isWidth x2) (fun r_4 => (
    pbr (r_4 = 0)
      (some ((-1 : Int32), s_trees_woodCounts, s_trees_woodRings))
      (pgd (pin x1 4) (
      pbr ((s_trees_woodCounts x1.toNatClampNeg) < (30 : Int32))
        (pcl (f_X10_growWood x1 x2 s_trees_woodCounts s_trees_woodRings) (fun (r_9, woodCounts_10, woodRings_11) => (
        some (r_9, woodCounts_10, woodRings_11))))
        (some ((-3 : Int32), s_trees_woodCounts, s_trees_woodRings)))))))))

set_option maxRecDepth 100000 in
set_option maxHeartbeats 4000000 in
theorem ct_X11_wood (l : Launch) (D : va_G) (cA : Nat → ClassId) (x1 : Int32) (x2 : Int32) (a0 : Nat) (q_trees : Nat) (q_trees_woodCounts : Nat) (q_trees_woodRings : Nat) (q_text : Nat) (q_ocean : Nat) (q_found : Nat) (q_images : Nat) (q_search : Nat) (q_stories : Nat) (q_signs : Nat) (q_calendar : Nat) (q_draft : Nat) (q_trees_livingRings : Nat) (q_trees_ends : Nat) (r_trees_woodRings : Nat → Nat) (s_yearOfNow : Int32) (s_trees_livingCount : Int32) (s_trees_firstYear : Int32) (s_trees_woodCounts : Nat → Int32) (s_trees_woodRings : Nat → Nat → Int32) (o_r : Int32) (o_trees_woodCounts : Nat → Int32) (o_trees_woodRings : Nat → Nat → Int32) (hf : f_X11_wood x1 x2 s_trees_woodCounts s_trees_woodRings = some (o_r, o_trees_woodCounts, o_trees_woodRings)) : CT l yX11_wood wsX11_wood rm_X11_wood D cA [.ref a0, .int x1, .int x2] (w_X11_wood a0 q_trees q_trees_woodCounts q_trees_woodRings q_text q_ocean q_found q_images q_search q_stories q_signs q_calendar q_draft q_trees_livingRings q_trees_ends r_trees_woodRings cA s_yearOfNow s_trees_livingCount s_trees_firstYear s_trees_woodCounts s_trees_woodRings) (w_X11_wood a0 q_trees q_trees_woodCounts q_trees_woodRings q_text q_ocean q_found q_images q_search q_stories q_signs q_calendar q_draft q_trees_livingRings q_trees_ends r_trees_woodRings cA s_yearOfNow s_trees_livingCount s_trees_firstYear o_trees_woodCounts o_trees_woodRings) (some (.int o_r)) := by
  refine CT.ofW (cc := cX11_wood) (maxL := 3) (ret := (some .int)) (by decide +kernel) rfl (Nat.le_of_ble_eq_true rfl) ?_
  intro p e s m below meth c A C0 hA hP hD ls hl
  have C0 : MX p s m [.ref a0, .int x1, .int x2].toArray meth c cX11_wood 3 wsX11_wood RX11 (some .int) D cA := C0
  have hl : lv_has ls 3 [(0, .ref a0), (1, .int x1), (2, .int x2)] := hl
  obtain ⟨hx, hb, hml, hown, hts, hr, hlocks, hX⟩ := id C0
  have hK := hX.1
  have hN := hX.2
  have hS : va_S A s.heap s.heap [] := va_S.rf
  unfold f_X11_wood at hf
  refine lv_iload_n hx hb dX11_wood_0 rfl (lv_at hl 1 rfl) ?_
  obtain ⟨r_1, hc_2, hf⟩ := pcl_e hf
  refine m_callS (As := [.int x1]) (rest := []) ⟨hx, hb, hml, hown, hts⟩ hX (ct_X11_isWood l D cA x1 r_1 hc_2) (va_cwS 1 hts gX11_wood_X11_isWood rfl rfl rfl (by decide +kernel) ⟨Nat.le_of_ble_eq_true rfl, Nat.le_of_ble_eq_true rfl⟩) hP hD hS hA [] (by decide) rfl rfl (WS' := (w_X11_wood a0 q_trees q_trees_woodCounts q_trees_woodRings q_text q_ocean q_found q_images q_search q_stories q_signs q_calendar q_draft q_trees_livingRings q_trees_ends r_trees_woodRings cA s_yearOfNow s_trees_livingCount s_trees_firstYear s_trees_woodCounts s_trees_woodRings)) rfl rfl hl.1 rfl (st' := [.int r_1]) rfl (Nat.le_of_ble_eq_true rfl) ⟨Nat.zero_le _, Nat.zero_le _⟩ dX11_wood_1 (fun H locs hP hD hS => ?_)
  refine lv_if_eq (tgt := 14) hx hb dX11_wood_4 (by decide) (fun c_3 => ?_) (fun c_3 => ?_)
  · have hf := pbr_t c_3 hf
    refine lv_iconst (v := (-1 : Int32)) hx hb dX11_wood_14 (by decide) ?_
    cases hf
    exact m_iret hx hb hr hlocks hP hS dX11_wood_15
  have hf := pbr_f c_3 hf
  refine lv_iload_n hx hb dX11_wood_7 rfl (lv_at hl 2 rfl) ?_
  obtain ⟨r_4, hc_5, hf⟩ := pcl_e hf
  refine m_callS (As := [.int x2]) (rest := []) ⟨hx, hb, hml, hown, hts⟩ hX (ct_X11_isWidth l D cA x2 r_4 hc_5) (va_cwS 1 hts gX11_wood_X11_isWidth rfl rfl rfl (by decide +kernel) ⟨Nat.le_of_ble_eq_true rfl, Nat.le_of_ble_eq_true rfl⟩) hP hD hS hA [] (by decide) rfl rfl (WS' := (w_X11_wood a0 q_trees q_trees_woodCounts q_trees_woodRings q_text q_ocean q_found q_images q_search q_stories q_signs q_calendar q_draft q_trees_livingRings q_trees_ends r_trees_woodRings cA s_yearOfNow s_trees_livingCount s_trees_firstYear s_trees_woodCounts s_trees_woodRings)) rfl rfl hl.1 rfl (st' := [.int r_4]) rfl (Nat.le_of_ble_eq_true rfl) ⟨Nat.zero_le _, Nat.zero_le _⟩ dX11_wood_8 (fun H locs hP hD hS => ?_)
  refine lv_if_ne (tgt := 16) hx hb dX11_wood_11 (by decide) (fun c_6 => ?_) (fun c_6 => ?_)
  · have hf := pbr_f c_6 hf
    refine lv_aload_n hx hb dX11_wood_16 rfl (lv_at hl 0 rfl) ?_
    refine va_get (D := D) (ci := 11) (v := .ref q_trees) (C := RX11) (T := TX11) (N := 11) hx hb hts hn_X11_wood_X11 hown hK hP 0 rfl rfl 2 (by decide) (hts _ hw_X11_wood_f26) (fun _ h9 => h9) rfl dX11_wood_17 ?_
    refine va_getN (D := D) (ci := 10) (v := .ref q_trees_woodCounts) (C := RX10) (T := TX10) (N := 6) hx hb hts hn_X11_wood_X10 hown hK hP 1 rfl rfl 2 (by decide) (va_Nw.use rfl (hN _ nw_X11_216)) (fun _ h9 => h9) rfl dX11_wood_20 ?_
    refine lv_iload_n hx hb dX11_wood_23 rfl (lv_at hl 1 rfl) ?_
    obtain ⟨g_7, hf⟩ := pgd_e hf
    refine va_iald hx hb hK hP 2 1 rfl rfl g_7 dX11_wood_24 ?_
    refine lv_bipush (v := (30 : Int32)) hx hb dX11_wood_25 (by decide) ?_
    refine lv_icmp_lt (tgt := 35) hx hb dX11_wood_27 (by decide) (fun c_8 => ?_) (fun c_8 => ?_)
    · have hf := pbr_t c_8 hf
      refine lv_aload_n hx hb dX11_wood_35 rfl (lv_at hl 0 rfl) ?_
      refine va_get (D := D) (ci := 11) (v := .ref q_trees) (C := RX11) (T := TX11) (N := 11) hx hb hts hn_X11_wood_X11 hown hK hP 0 rfl rfl 2 (by decide) (hts _ hw_X11_wood_f26) (fun _ h9 => h9) rfl dX11_wood_36 ?_
      refine lv_iload_n hx hb dX11_wood_39 rfl (lv_at hl 1 rfl) ?_
      refine lv_iload_n hx hb dX11_wood_40 rfl (lv_at hl 2 rfl) ?_
      obtain ⟨⟨r_9, woodCounts_10, woodRings_11⟩, hc_12, hf⟩ := pcl_e hf
      refine m_callV (As := [.int x1, .int x2]) (rest := []) ⟨hx, hb, hml, hown, hts⟩ hX (ct_X10_growWood l D cA x1 x2 q_trees q_trees_woodCounts q_trees_woodRings q_trees_livingRings q_trees_ends r_trees_woodRings s_trees_livingCount s_trees_firstYear s_trees_woodCounts s_trees_woodRings r_9 woodCounts_10 woodRings_11 hc_12) (cwV 2 hts gX11_wood_X10_growWood rfl rfl rfl (by decide +kernel) ⟨Nat.le_of_ble_eq_true rfl, Nat.le_of_ble_eq_true rfl⟩) hP hD hS hA [1, 2, 3, 4, 5, 6, 7] (by decide) rfl rfl (WS' := (w_X11_wood a0 q_trees q_trees_woodCounts q_trees_woodRings q_text q_ocean q_found q_images q_search q_stories q_signs q_calendar q_draft q_trees_livingRings q_trees_ends r_trees_woodRings cA s_yearOfNow s_trees_livingCount s_trees_firstYear woodCounts_10 woodRings_11)) rfl 1 10 rfl rfl rfl hl.1 rfl (st' := [.int r_9]) rfl (Nat.le_of_ble_eq_true rfl) ⟨Nat.zero_le _, Nat.zero_le _⟩ dX11_wood_41 (fun H locs hP hD hS => ?_)
      cases hf
      exact m_iret hx hb hr hlocks hP hS dX11_wood_44
    have hf := pbr_f c_8 hf
    refine lv_bipush (v := (-3 : Int32)) hx hb dX11_wood_30 (by decide) ?_
    refine lv_goto (tgt := 44) hx hb dX11_wood_32 (by decide) ?_
    cases hf
    exact m_iret hx hb hr hlocks hP hS dX11_wood_44
  have hf := pbr_t c_6 hf
  refine lv_iconst (v := (-1 : Int32)) hx hb dX11_wood_14 (by decide) ?_
  cases hf
  exact m_iret hx hb hr hlocks hP hS dX11_wood_15

/-! ===== OrphanWave.felled(II)I ===== -/
abbrev rm_X11_felled : Room := { frames := 2, cells := 0, slots := 0, locals := 42 }
abbrev w_X11_felled (a0 : Nat) (q_trees : Nat) (q_trees_woodCounts : Nat) (q_trees_ends : Nat) (q_text : Nat) (q_ocean : Nat) (q_found : Nat) (q_images : Nat) (q_search : Nat) (q_stories : Nat) (q_signs : Nat) (q_calendar : Nat) (q_draft : Nat) (q_trees_livingRings : Nat) (q_trees_woodRings : Nat) (cA : Nat → ClassId) (s_yearOfNow : Int32) (s_trees_livingCount : Int32) (s_trees_firstYear : Int32) (s_trees_woodCounts : Nat → Int32) (s_trees_ends : Nat → Int32) : va_W := [(a0, .inr (11, [.ref q_text, .ref q_ocean, .ref q_trees, .ref q_found, .ref q_images, .ref q_search, .ref q_stories, .ref q_signs, .ref q_calendar, .ref q_draft, .int s_yearOfNow])), (q_trees, .inr (10, [.ref q_trees_livingRings, .ref q_trees_woodRings, .ref q_trees_woodCounts, .ref q_trees_ends, .int s_trees_livingCount, .int s_trees_firstYear])), (q_trees_woodCounts, .inl (cA 1, 4, .inl s_trees_woodCounts)), (q_trees_ends, .inl (cA 1, 4, .inl s_trees_ends))]
theorem hn_X11_felled_X11 : ∀ w ∈ u_ws RX11 TX11 11, w ∈ wsX11_felled := by decide +kernel
theorem hw_X11_felled_f26 : Cond.fieldLink RX11 26 "OrphanWave" "trees" "LOrphanWave$Trees;" ∈ wsX11_felled := by decide +kernel

def f_X11_felled (x1 : Int32) (x2 : Int32) (s_trees_woodCounts : Nat → Int32) (s_trees_ends : Nat → Int32) : Option ((Int32) × (Nat → Int32) × (Nat → Int32)) :=
  pcl (f_X11_isWood x1) (fun r_1 => (
  pbr (r_1 = 0)
    (some ((-1 : Int32), s_trees_woodCounts, s_trees_ends))
    (pcl (f_X11_isBit x2) (fun r_4 => (
    pbr (r_4 = 0)
      (some ((-1 : Int32), s_trees_woodCounts, s_trees_ends))
      (pcl (f_X10_startWood x1 x2 s_trees_woodCounts s_trees_ends) (fun (r_7, woodCounts_8, ends_9) => (
      some (r_7, woodCounts_8, ends_9)))))))))

set_option maxRecDepth 100000 in
set_option maxHeartbeats 4000000 in
theorem ct_X11_felled (l : Launch) (D : va_G) (cA : Nat → ClassId) (x1 : Int32) (x2 : Int32) (a0 : Nat) (q_trees : Nat) (q_trees_woodCounts : Nat) (q_trees_ends : Nat) (q_text : Nat) (q_ocean : Nat) (q_found : Nat) (q_images : Nat) (q_search : Nat) (q_stories : Nat) (q_signs : Nat) (q_calendar : Nat) (q_draft : Nat) (q_trees_livingRings : Nat) (q_trees_woodRings : Nat) (s_yearOfNow : Int32) (s_trees_livingCount : Int32) (s_trees_firstYear : Int32) (s_trees_woodCounts : Nat → Int32) (s_trees_ends : Nat → Int32) (o_r : Int32) (o_trees_woodCounts : Nat → Int32) (o_trees_ends : Nat → Int32) (hf : f_X11_felled x1 x2 s_trees_woodCounts s_trees_ends = some (o_r, o_trees_woodCounts, o_trees_ends)) : CT l yX11_felled wsX11_felled rm_X11_felled D cA [.ref a0, .int x1, .int x2] (w_X11_felled a0 q_trees q_trees_woodCounts q_trees_ends q_text q_ocean q_found q_images q_search q_stories q_signs q_calendar q_draft q_trees_livingRings q_trees_woodRings cA s_yearOfNow s_trees_livingCount s_trees_firstYear s_trees_woodCounts s_trees_ends) (w_X11_felled a0 q_trees q_trees_woodCounts q_trees_ends q_text q_ocean q_found q_images q_search q_stories q_signs q_calendar q_draft q_trees_livingRings q_trees_woodRings cA s_yearOfNow s_trees_livingCount s_trees_firstYear o_trees_woodCounts o_trees_ends) (some (.int o_r)) := by
  refine CT.ofW (cc := cX11_felled) (maxL := 3) (ret := (some .int)) (by decide +kernel) rfl (Nat.le_of_ble_eq_true rfl) ?_
  intro p e s m below meth c A C0 hA hP hD ls hl
  have C0 : MX p s m [.ref a0, .int x1, .int x2].toArray meth c cX11_felled 3 wsX11_felled RX11 (some .int) D cA := C0
  have hl : lv_has ls 3 [(0, .ref a0), (1, .int x1), (2, .int x2)] := hl
  obtain ⟨hx, hb, hml, hown, hts, hr, hlocks, hX⟩ := id C0
  have hK := hX.1
  have hN := hX.2
  have hS : va_S A s.heap s.heap [] := va_S.rf
  unfold f_X11_felled at hf
  refine lv_iload_n hx hb dX11_felled_0 rfl (lv_at hl 1 rfl) ?_
  obtain ⟨r_1, hc_2, hf⟩ := pcl_e hf
  refine m_callS (As := [.int x1]) (rest := []) ⟨hx, hb, hml, hown, hts⟩ hX (ct_X11_isWood l D cA x1 r_1 hc_2) (va_cwS 1 hts gX11_felled_X11_isWood rfl rfl rfl (by decide +kernel) ⟨Nat.le_of_ble_eq_true rfl, Nat.le_of_ble_eq_true rfl⟩) hP hD hS hA [] (by decide) rfl rfl (WS' := (w_X11_felled a0 q_trees q_trees_woodCounts q_trees_ends q_text q_ocean q_found q_images q_search q_stories q_signs q_calendar q_draft q_trees_livingRings q_trees_woodRings cA s_yearOfNow s_trees_livingCount s_trees_firstYear s_trees_woodCounts s_trees_ends)) rfl rfl hl.1 rfl (st' := [.int r_1]) rfl (Nat.le_of_ble_eq_true rfl) ⟨Nat.zero_le _, Nat.zero_le _⟩ dX11_felled_1 (fun H locs hP hD hS => ?_)
  refine lv_if_eq (tgt := 14) hx hb dX11_felled_4 (by decide) (fun c_3 => ?_) (fun c_3 => ?_)
  · have hf := pbr_t c_3 hf
    refine lv_iconst (v := (-1 : Int32)) hx hb dX11_felled_14 (by decide) ?_
    cases hf
    exact m_iret hx hb hr hlocks hP hS dX11_felled_15
  have hf := pbr_f c_3 hf
  refine lv_iload_n hx hb dX11_felled_7 rfl (lv_at hl 2 rfl) ?_
  obtain ⟨r_4, hc_5, hf⟩ := pcl_e hf
  refine m_callS (As := [.int x2]) (rest := []) ⟨hx, hb, hml, hown, hts⟩ hX (ct_X11_isBit l D cA x2 r_4 hc_5) (va_cwS 1 hts gX11_felled_X11_isBit rfl rfl rfl (by decide +kernel) ⟨Nat.le_of_ble_eq_true rfl, Nat.le_of_ble_eq_true rfl⟩) hP hD hS hA [] (by decide) rfl rfl (WS' := (w_X11_felled a0 q_trees q_trees_woodCounts q_trees_ends q_text q_ocean q_found q_images q_search q_stories q_signs q_calendar q_draft q_trees_livingRings q_trees_woodRings cA s_yearOfNow s_trees_livingCount s_trees_firstYear s_trees_woodCounts s_trees_ends)) rfl rfl hl.1 rfl (st' := [.int r_4]) rfl (Nat.le_of_ble_eq_true rfl) ⟨Nat.zero_le _, Nat.zero_le _⟩ dX11_felled_8 (fun H locs hP hD hS => ?_)
  refine lv_if_ne (tgt := 16) hx hb dX11_felled_11 (by decide) (fun c_6 => ?_) (fun c_6 => ?_)
  · have hf := pbr_f c_6 hf
    refine lv_aload_n hx hb dX11_felled_16 rfl (lv_at hl 0 rfl) ?_
    refine va_get (D := D) (ci := 11) (v := .ref q_trees) (C := RX11) (T := TX11) (N := 11) hx hb hts hn_X11_felled_X11 hown hK hP 0 rfl rfl 2 (by decide) (hts _ hw_X11_felled_f26) (fun _ h9 => h9) rfl dX11_felled_17 ?_
    refine lv_iload_n hx hb dX11_felled_20 rfl (lv_at hl 1 rfl) ?_
    refine lv_iload_n hx hb dX11_felled_21 rfl (lv_at hl 2 rfl) ?_
    obtain ⟨⟨r_7, woodCounts_8, ends_9⟩, hc_10, hf⟩ := pcl_e hf
    refine m_callV (As := [.int x1, .int x2]) (rest := []) ⟨hx, hb, hml, hown, hts⟩ hX (ct_X10_startWood l D cA x1 x2 q_trees q_trees_woodCounts q_trees_ends q_trees_livingRings q_trees_woodRings s_trees_livingCount s_trees_firstYear s_trees_woodCounts s_trees_ends r_7 woodCounts_8 ends_9 hc_10) (cwV 2 hts gX11_felled_X10_startWood rfl rfl rfl (by decide +kernel) ⟨Nat.le_of_ble_eq_true rfl, Nat.le_of_ble_eq_true rfl⟩) hP hD hS hA [1, 2, 3] (by decide) rfl rfl (WS' := (w_X11_felled a0 q_trees q_trees_woodCounts q_trees_ends q_text q_ocean q_found q_images q_search q_stories q_signs q_calendar q_draft q_trees_livingRings q_trees_woodRings cA s_yearOfNow s_trees_livingCount s_trees_firstYear woodCounts_8 ends_9)) rfl 1 10 rfl rfl rfl hl.1 rfl (st' := [.int r_7]) rfl (Nat.le_of_ble_eq_true rfl) ⟨Nat.zero_le _, Nat.zero_le _⟩ dX11_felled_22 (fun H locs hP hD hS => ?_)
    cases hf
    exact m_iret hx hb hr hlocks hP hS dX11_felled_25
  have hf := pbr_t c_6 hf
  refine lv_iconst (v := (-1 : Int32)) hx hb dX11_felled_14 (by decide) ?_
  cases hf
  exact m_iret hx hb hr hlocks hP hS dX11_felled_15

/-! ===== OrphanWave.like(II)I ===== -/
abbrev rm_X11_like : Room := { frames := 2, cells := 0, slots := 0, locals := 46 }
abbrev wx_X11_like (a0 : Nat) (q_trees : Nat) (q_trees_woodCounts : Nat) (q_trees_livingRings : Nat) (q_trees_woodRings : Nat) (q_text : Nat) (q_ocean : Nat) (q_found : Nat) (q_images : Nat) (q_search : Nat) (q_stories : Nat) (q_signs : Nat) (q_calendar : Nat) (q_draft : Nat) (q_trees_ends : Nat) (r_trees_woodRings : Nat → Nat) (cA : Nat → ClassId) (s_yearOfNow : Int32) (s_trees_livingCount : Int32) (s_trees_firstYear : Int32) (s_trees_woodCounts : Nat → Int32) (s_trees_livingRings : Nat → Int32) (s_trees_woodRings : Nat → Nat → Int32) : va_W := [(a0, .inr (11, [.ref q_text, .ref q_ocean, .ref q_trees, .ref q_found, .ref q_images, .ref q_search, .ref q_stories, .ref q_signs, .ref q_calendar, .ref q_draft, .int s_yearOfNow])), (q_trees, .inr (10, [.ref q_trees_livingRings, .ref q_trees_woodRings, .ref q_trees_woodCounts, .ref q_trees_ends, .int s_trees_livingCount, .int s_trees_firstYear])), (q_trees_woodCounts, .inl (cA 1, 4, .inl s_trees_woodCounts)), (q_trees_livingRings, .inl (cA 1, 60, .inl s_trees_livingRings)), (q_trees_woodRings, .inl (cA 5, 4, .inr (.inr (.inr (.inr (gro 4 r_trees_woodRings))))))]
abbrev w_X11_like (a0 : Nat) (q_trees : Nat) (q_trees_woodCounts : Nat) (q_trees_livingRings : Nat) (q_trees_woodRings : Nat) (q_text : Nat) (q_ocean : Nat) (q_found : Nat) (q_images : Nat) (q_search : Nat) (q_stories : Nat) (q_signs : Nat) (q_calendar : Nat) (q_draft : Nat) (q_trees_ends : Nat) (r_trees_woodRings : Nat → Nat) (cA : Nat → ClassId) (s_yearOfNow : Int32) (s_trees_livingCount : Int32) (s_trees_firstYear : Int32) (s_trees_woodCounts : Nat → Int32) (s_trees_livingRings : Nat → Int32) (s_trees_woodRings : Nat → Nat → Int32) : va_W := [(a0, .inr (11, [.ref q_text, .ref q_ocean, .ref q_trees, .ref q_found, .ref q_images, .ref q_search, .ref q_stories, .ref q_signs, .ref q_calendar, .ref q_draft, .int s_yearOfNow])), (q_trees, .inr (10, [.ref q_trees_livingRings, .ref q_trees_woodRings, .ref q_trees_woodCounts, .ref q_trees_ends, .int s_trees_livingCount, .int s_trees_firstYear])), (q_trees_woodCounts, .inl (cA 1, 4, .inl s_trees_woodCounts)), (q_trees_livingRings, .inl (cA 1, 60, .inl s_trees_livingRings)), (q_trees_woodRings, .inl (cA 5, 4, .inr (.inr (.inr (.inr (gro 4 r_trees_woodRings))))))] ++ grw 4 r_trees_woodRings (cA 1) 30 s_trees_woodRings
theorem hn_X11_like_X11 : ∀ w ∈ u_ws RX11 TX11 11, w ∈ wsX11_like := by decide +kernel
theorem hw_X11_like_f26 : Cond.fieldLink RX11 26 "OrphanWave" "trees" "LOrphanWave$Trees;" ∈ wsX11_like := by decide +kernel

def f_X11_like (x1 : Int32) (x2 : Int32) (s_trees_livingCount : Int32) (s_trees_woodCounts : Nat → Int32) (s_trees_livingRings : Nat → Int32) (s_trees_woodRings : Nat → Nat → Int32) : Option ((Int32)) :=
  pcl (f_X11_isWood x1) (fun r_1 => (
  pbr (r_1 = 0)
    (some ((-1 : Int32)))
    (pcl (f_X10_lies x1 x2 s_trees_livingCount s_trees_woodCounts) (fun r_4 => (
    pbr (r_4 = 0)
      (some ((-1 : Int32)))
      (pcl (f_X10_likeness x1 x2 s_trees_woodCounts s_trees_livingRings s_trees_woodRings) (fun r_7 => (
      some (r_7)))))))))

set_option maxRecDepth 100000 in
set_option maxHeartbeats 4000000 in
theorem ct_X11_like (l : Launch) (D : va_G) (cA : Nat → ClassId) (x1 : Int32) (x2 : Int32) (a0 : Nat) (q_trees : Nat) (q_trees_woodCounts : Nat) (q_trees_livingRings : Nat) (q_trees_woodRings : Nat) (q_text : Nat) (q_ocean : Nat) (q_found : Nat) (q_images : Nat) (q_search : Nat) (q_stories : Nat) (q_signs : Nat) (q_calendar : Nat) (q_draft : Nat) (q_trees_ends : Nat) (r_trees_woodRings : Nat → Nat) (s_yearOfNow : Int32) (s_trees_livingCount : Int32) (s_trees_firstYear : Int32) (s_trees_woodCounts : Nat → Int32) (s_trees_livingRings : Nat → Int32) (s_trees_woodRings : Nat → Nat → Int32) (o_r : Int32) (hf : f_X11_like x1 x2 s_trees_livingCount s_trees_woodCounts s_trees_livingRings s_trees_woodRings = some o_r) : CT l yX11_like wsX11_like rm_X11_like D cA [.ref a0, .int x1, .int x2] (w_X11_like a0 q_trees q_trees_woodCounts q_trees_livingRings q_trees_woodRings q_text q_ocean q_found q_images q_search q_stories q_signs q_calendar q_draft q_trees_ends r_trees_woodRings cA s_yearOfNow s_trees_livingCount s_trees_firstYear s_trees_woodCounts s_trees_livingRings s_trees_woodRings) (w_X11_like a0 q_trees q_trees_woodCounts q_trees_livingRings q_trees_woodRings q_text q_ocean q_found q_images q_search q_stories q_signs q_calendar q_draft q_trees_ends r_trees_woodRings cA s_yearOfNow s_trees_livingCount s_trees_firstYear s_trees_woodCounts s_trees_livingRings s_trees_woodRings) (some (.int o_r)) := by
  refine CT.ofW (cc := cX11_like) (maxL := 3) (ret := (some .int)) (by decide +kernel) rfl (Nat.le_of_ble_eq_true rfl) ?_
  intro p e s m below meth c A C0 hA hP hD ls hl
  have C0 : MX p s m [.ref a0, .int x1, .int x2].toArray meth c cX11_like 3 wsX11_like RX11 (some .int) D cA := C0
  have hl : lv_has ls 3 [(0, .ref a0), (1, .int x1), (2, .int x2)] := hl
  obtain ⟨hx, hb, hml, hown, hts, hr, hlocks, hX⟩ := id C0
  have hK := hX.1
  have hN := hX.2
  have hS : va_S A s.heap s.heap [] := va_S.rf
  unfold f_X11_like at hf
  refine lv_iload_n hx hb dX11_like_0 rfl (lv_at hl 1 rfl) ?_
  obtain ⟨r_1, hc_2, hf⟩ := pcl_e hf
  refine m_callS (As := [.int x1]) (rest := []) ⟨hx, hb, hml, hown, hts⟩ hX (ct_X11_isWood l D cA x1 r_1 hc_2) (va_cwS 1 hts gX11_like_X11_isWood rfl rfl rfl (by decide +kernel) ⟨Nat.le_of_ble_eq_true rfl, Nat.le_of_ble_eq_true rfl⟩) hP hD hS hA [] (by decide) rfl rfl (WS' := (w_X11_like a0 q_trees q_trees_woodCounts q_trees_livingRings q_trees_woodRings q_text q_ocean q_found q_images q_search q_stories q_signs q_calendar q_draft q_trees_ends r_trees_woodRings cA s_yearOfNow s_trees_livingCount s_trees_firstYear s_trees_woodCounts s_trees_livingRings s_trees_woodRings)) rfl rfl hl.1 rfl (st' := [.int r_1]) rfl (Nat.le_of_ble_eq_true rfl) ⟨Nat.zero_le _, Nat.zero_le _⟩ dX11_like_1 (fun H locs hP hD hS => ?_)
  refine lv_if_eq (tgt := 19) hx hb dX11_like_4 (by decide) (fun c_3 => ?_) (fun c_3 => ?_)
  · have hf := pbr_t c_3 hf
    refine lv_iconst (v := (-1 : Int32)) hx hb dX11_like_19 (by decide) ?_
    cases hf
    exact m_iret hx hb hr hlocks hP hS dX11_like_20
  have hf := pbr_f c_3 hf
  refine lv_aload_n hx hb dX11_like_7 rfl (lv_at hl 0 rfl) ?_
  refine va_get (D := D) (ci := 11) (v := .ref q_trees) (C := RX11) (T := TX11) (N := 11) hx hb hts hn_X11_like_X11 hown hK hP 0 rfl rfl 2 (by decide) (hts _ hw_X11_like_f26) (fun _ h9 => h9) rfl dX11_like_8 ?_
  refine lv_iload_n hx hb dX11_like_11 rfl (lv_at hl 1 rfl) ?_
  refine lv_iload_n hx hb dX11_like_12 rfl (lv_at hl 2 rfl) ?_
  obtain ⟨r_4, hc_5, hf⟩ := pcl_e hf
  refine m_callV (As := [.int x1, .int x2]) (rest := []) ⟨hx, hb, hml, hown, hts⟩ hX (ct_X10_lies l D cA x1 x2 q_trees q_trees_woodCounts q_trees_livingRings q_trees_woodRings q_trees_ends s_trees_livingCount s_trees_firstYear s_trees_woodCounts r_4 hc_5) (cwV 2 hts gX11_like_X10_lies rfl rfl rfl (by decide +kernel) ⟨Nat.le_of_ble_eq_true rfl, Nat.le_of_ble_eq_true rfl⟩) hP hD hS hA [1, 2] (by decide) rfl rfl (WS' := (w_X11_like a0 q_trees q_trees_woodCounts q_trees_livingRings q_trees_woodRings q_text q_ocean q_found q_images q_search q_stories q_signs q_calendar q_draft q_trees_ends r_trees_woodRings cA s_yearOfNow s_trees_livingCount s_trees_firstYear s_trees_woodCounts s_trees_livingRings s_trees_woodRings)) rfl 1 10 rfl rfl rfl hl.1 rfl (st' := [.int r_4]) rfl (Nat.le_of_ble_eq_true rfl) ⟨Nat.zero_le _, Nat.zero_le _⟩ dX11_like_13 (fun H locs hP hD hS => ?_)
  refine lv_if_ne (tgt := 21) hx hb dX11_like_16 (by decide) (fun c_6 => ?_) (fun c_6 => ?_)
  · have hf := pbr_f c_6 hf
    refine lv_aload_n hx hb dX11_like_21 rfl (lv_at hl 0 rfl) ?_
    refine va_get (D := D) (ci := 11) (v := .ref q_trees) (C := RX11) (T := TX11) (N := 11) hx hb hts hn_X11_like_X11 hown hK hP 0 rfl rfl 2 (by decide) (hts _ hw_X11_like_f26) (fun _ h9 => h9) rfl dX11_like_22 ?_
    refine lv_iload_n hx hb dX11_like_25 rfl (lv_at hl 1 rfl) ?_
    refine lv_iload_n hx hb dX11_like_26 rfl (lv_at hl 2 rfl) ?_
    obtain ⟨r_7, hc_8, hf⟩ := pcl_e hf
    refine m_callV (As := [.int x1, .int x2]) (rest := []) ⟨hx, hb, hml, hown, hts⟩ hX (ct_X10_likeness l D cA x1 x2 q_trees q_trees_woodCounts q_trees_livingRings q_trees_woodRings q_trees_ends r_trees_woodRings s_trees_livingCount s_trees_firstYear s_trees_woodCounts s_trees_livingRings s_trees_woodRings r_7 hc_8) (cwV 2 hts gX11_like_X10_likeness rfl rfl rfl (by decide +kernel) ⟨Nat.le_of_ble_eq_true rfl, Nat.le_of_ble_eq_true rfl⟩) hP hD hS hA [1, 2, 3, 4, 5, 6, 7, 8] (by decide) rfl rfl (WS' := (w_X11_like a0 q_trees q_trees_woodCounts q_trees_livingRings q_trees_woodRings q_text q_ocean q_found q_images q_search q_stories q_signs q_calendar q_draft q_trees_ends r_trees_woodRings cA s_yearOfNow s_trees_livingCount s_trees_firstYear s_trees_woodCounts s_trees_livingRings s_trees_woodRings)) rfl 1 10 rfl rfl rfl hl.1 rfl (st' := [.int r_7]) rfl (Nat.le_of_ble_eq_true rfl) ⟨Nat.zero_le _, Nat.zero_le _⟩ dX11_like_27 (fun H locs hP hD hS => ?_)
    cases hf
    exact m_iret hx hb hr hlocks hP hS dX11_like_30
  have hf := pbr_t c_6 hf
  refine lv_iconst (v := (-1 : Int32)) hx hb dX11_like_19 (by decide) ?_
  cases hf
  exact m_iret hx hb hr hlocks hP hS dX11_like_20

/-! ===== OrphanWave.died(II)I ===== -/
abbrev rm_X11_died : Room := { frames := 3, cells := 0, slots := 0, locals := 71 }
abbrev wx_X11_died (a0 : Nat) (q_trees : Nat) (q_trees_woodCounts : Nat) (q_trees_livingRings : Nat) (q_trees_ends : Nat) (q_trees_woodRings : Nat) (q_text : Nat) (q_ocean : Nat) (q_found : Nat) (q_images : Nat) (q_search : Nat) (q_stories : Nat) (q_signs : Nat) (q_calendar : Nat) (q_draft : Nat) (r_trees_woodRings : Nat → Nat) (cA : Nat → ClassId) (s_yearOfNow : Int32) (s_trees_livingCount : Int32) (s_trees_firstYear : Int32) (s_trees_woodCounts : Nat → Int32) (s_trees_livingRings : Nat → Int32) (s_trees_ends : Nat → Int32) (s_trees_woodRings : Nat → Nat → Int32) : va_W := [(a0, .inr (11, [.ref q_text, .ref q_ocean, .ref q_trees, .ref q_found, .ref q_images, .ref q_search, .ref q_stories, .ref q_signs, .ref q_calendar, .ref q_draft, .int s_yearOfNow])), (q_trees, .inr (10, [.ref q_trees_livingRings, .ref q_trees_woodRings, .ref q_trees_woodCounts, .ref q_trees_ends, .int s_trees_livingCount, .int s_trees_firstYear])), (q_trees_woodCounts, .inl (cA 1, 4, .inl s_trees_woodCounts)), (q_trees_livingRings, .inl (cA 1, 60, .inl s_trees_livingRings)), (q_trees_ends, .inl (cA 1, 4, .inl s_trees_ends)), (q_trees_woodRings, .inl (cA 5, 4, .inr (.inr (.inr (.inr (gro 4 r_trees_woodRings))))))]
abbrev w_X11_died (a0 : Nat) (q_trees : Nat) (q_trees_woodCounts : Nat) (q_trees_livingRings : Nat) (q_trees_ends : Nat) (q_trees_woodRings : Nat) (q_text : Nat) (q_ocean : Nat) (q_found : Nat) (q_images : Nat) (q_search : Nat) (q_stories : Nat) (q_signs : Nat) (q_calendar : Nat) (q_draft : Nat) (r_trees_woodRings : Nat → Nat) (cA : Nat → ClassId) (s_yearOfNow : Int32) (s_trees_livingCount : Int32) (s_trees_firstYear : Int32) (s_trees_woodCounts : Nat → Int32) (s_trees_livingRings : Nat → Int32) (s_trees_ends : Nat → Int32) (s_trees_woodRings : Nat → Nat → Int32) : va_W := [(a0, .inr (11, [.ref q_text, .ref q_ocean, .ref q_trees, .ref q_found, .ref q_images, .ref q_search, .ref q_stories, .ref q_signs, .ref q_calendar, .ref q_draft, .int s_yearOfNow])), (q_trees, .inr (10, [.ref q_trees_livingRings, .ref q_trees_woodRings, .ref q_trees_woodCounts, .ref q_trees_ends, .int s_trees_livingCount, .int s_trees_firstYear])), (q_trees_woodCounts, .inl (cA 1, 4, .inl s_trees_woodCounts)), (q_trees_livingRings, .inl (cA 1, 60, .inl s_trees_livingRings)), (q_trees_ends, .inl (cA 1, 4, .inl s_trees_ends)), (q_trees_woodRings, .inl (cA 5, 4, .inr (.inr (.inr (.inr (gro 4 r_trees_woodRings))))))] ++ grw 4 r_trees_woodRings (cA 1) 30 s_trees_woodRings
theorem hn_X11_died_X11 : ∀ w ∈ u_ws RX11 TX11 11, w ∈ wsX11_died := by decide +kernel
theorem hn_X11_died_X10 : ∀ w ∈ u_ws RX10 TX10 6, w ∈ wsX11_died := by decide +kernel
theorem hw_X11_died_f26 : Cond.fieldLink RX11 26 "OrphanWave" "trees" "LOrphanWave$Trees;" ∈ wsX11_died := by decide +kernel

def f_X11_died (x1 : Int32) (x2 : Int32) (s_trees_livingCount : Int32) (s_trees_firstYear : Int32) (s_trees_woodCounts : Nat → Int32) (s_trees_livingRings : Nat → Int32) (s_trees_ends : Nat → Int32) (s_trees_woodRings : Nat → Nat → Int32) : Option ((Int32)) :=
  pcl (f_X11_isWood x1) (fun r_1 => (
  pbr (r_1 = 0)
    (some ((-1 : Int32)))
    (pcl (f_X11_within x2 (0 : Int32) (2 : Int32)) (fun r_4 => (
    pbr (r_4 = 0)
      (some ((-1 : Int32)))
      (pcl (f_X10_laidOn x1 s_trees_livingCount s_trees_woodCounts s_trees_livingRings s_trees_woodRings) (fun r_7 => (
      pbr (r_7 = (-9 : Int32))
        (some (r_7))
        (pbr (x2 = 0)
          (some (r_7))
          (pbr (x2 = (1 : Int32))
            (pcl (f_X10_lastYear x1 r_7 s_trees_firstYear s_trees_woodCounts) (fun r_13 => (
            some (r_13))))
            (pgd (pin x1 4) (
            some ((s_trees_ends x1.toNatClampNeg))))))))))))))

set_option maxRecDepth 100000 in
set_option maxHeartbeats 4000000 in
theorem ct_X11_died (l : Launch) (D : va_G) (cA : Nat → ClassId) (x1 : Int32) (x2 : Int32) (a0 : Nat) (q_trees : Nat) (q_trees_woodCounts : Nat) (q_trees_livingRings : Nat) (q_trees_ends : Nat) (q_trees_woodRings : Nat) (q_text : Nat) (q_ocean : Nat) (q_found : Nat) (q_images : Nat) (q_search : Nat) (q_stories : Nat) (q_signs : Nat) (q_calendar : Nat) (q_draft : Nat) (r_trees_woodRings : Nat → Nat) (s_yearOfNow : Int32) (s_trees_livingCount : Int32) (s_trees_firstYear : Int32) (s_trees_woodCounts : Nat → Int32) (s_trees_livingRings : Nat → Int32) (s_trees_ends : Nat → Int32) (s_trees_woodRings : Nat → Nat → Int32) (o_r : Int32) (hf : f_X11_died x1 x2 s_trees_livingCount s_trees_firstYear s_trees_woodCounts s_trees_livingRings s_trees_ends s_trees_woodRings = some o_r) : CT l yX11_died wsX11_died rm_X11_died D cA [.ref a0, .int x1, .int x2] (w_X11_died a0 q_trees q_trees_woodCounts q_trees_livingRings q_trees_ends q_trees_woodRings q_text q_ocean q_found q_images q_search q_stories q_signs q_calendar q_draft r_trees_woodRings cA s_yearOfNow s_trees_livingCount s_trees_firstYear s_trees_woodCounts s_trees_livingRings s_trees_ends s_trees_woodRings) (w_X11_died a0 q_trees q_trees_woodCounts q_trees_livingRings q_trees_ends q_trees_woodRings q_text q_ocean q_found q_images q_search q_stories q_signs q_calendar q_draft r_trees_woodRings cA s_yearOfNow s_trees_livingCount s_trees_firstYear s_trees_woodCounts s_trees_livingRings s_trees_ends s_trees_woodRings) (some (.int o_r)) := by
  refine CT.ofW (cc := cX11_died) (maxL := 4) (ret := (some .int)) (by decide +kernel) rfl (Nat.le_of_ble_eq_true rfl) ?_
  intro p e s m below meth c A C0 hA hP hD ls hl
  have C0 : MX p s m [.ref a0, .int x1, .int x2].toArray meth c cX11_died 4 wsX11_died RX11 (some .int) D cA := C0
  have hl : lv_has ls 4 [(0, .ref a0), (1, .int x1), (2, .int x2)] := hl
  obtain ⟨hx, hb, hml, hown, hts, hr, hlocks, hX⟩ := id C0
  have hK := hX.1
  have hN := hX.2
  have hS : va_S A s.heap s.heap [] := va_S.rf
  unfold f_X11_died at hf
  refine lv_iload_n hx hb dX11_died_0 rfl (lv_at hl 1 rfl) ?_
  obtain ⟨r_1, hc_2, hf⟩ := pcl_e hf
  refine m_callS (As := [.int x1]) (rest := []) ⟨hx, hb, hml, hown, hts⟩ hX (ct_X11_isWood l D cA x1 r_1 hc_2) (va_cwS 1 hts gX11_died_X11_isWood rfl rfl rfl (by decide +kernel) ⟨Nat.le_of_ble_eq_true rfl, Nat.le_of_ble_eq_true rfl⟩) hP hD hS hA [] (by decide) rfl rfl (WS' := (w_X11_died a0 q_trees q_trees_woodCounts q_trees_livingRings q_trees_ends q_trees_woodRings q_text q_ocean q_found q_images q_search q_stories q_signs q_calendar q_draft r_trees_woodRings cA s_yearOfNow s_trees_livingCount s_trees_firstYear s_trees_woodCounts s_trees_livingRings s_trees_ends s_trees_woodRings)) rfl rfl hl.1 rfl (st' := [.int r_1]) rfl (Nat.le_of_ble_eq_true rfl) ⟨Nat.zero_le _, Nat.zero_le _⟩ dX11_died_1 (fun H locs hP hD hS => ?_)
  refine lv_if_eq (tgt := 16) hx hb dX11_died_4 (by decide) (fun c_3 => ?_) (fun c_3 => ?_)
  · have hf := pbr_t c_3 hf
    refine lv_iconst (v := (-1 : Int32)) hx hb dX11_died_16 (by decide) ?_
    cases hf
    exact m_iret hx hb hr hlocks hP hS dX11_died_17
  have hf := pbr_f c_3 hf
  refine lv_iload_n hx hb dX11_died_7 rfl (lv_at hl 2 rfl) ?_
  refine lv_iconst (v := (0 : Int32)) hx hb dX11_died_8 (by decide) ?_
  refine lv_iconst (v := (2 : Int32)) hx hb dX11_died_9 (by decide) ?_
  obtain ⟨r_4, hc_5, hf⟩ := pcl_e hf
  refine m_callS (As := [.int x2, .int (0 : Int32), .int (2 : Int32)]) (rest := []) ⟨hx, hb, hml, hown, hts⟩ hX (ct_X11_within l D cA x2 (0 : Int32) (2 : Int32) r_4 hc_5) (va_cwS 3 hts gX11_died_X11_within rfl rfl rfl (by decide +kernel) ⟨Nat.le_of_ble_eq_true rfl, Nat.le_of_ble_eq_true rfl⟩) hP hD hS hA [] (by decide) rfl rfl (WS' := (w_X11_died a0 q_trees q_trees_woodCounts q_trees_livingRings q_trees_ends q_trees_woodRings q_text q_ocean q_found q_images q_search q_stories q_signs q_calendar q_draft r_trees_woodRings cA s_yearOfNow s_trees_livingCount s_trees_firstYear s_trees_woodCounts s_trees_livingRings s_trees_ends s_trees_woodRings)) rfl rfl hl.1 rfl (st' := [.int r_4]) rfl (Nat.le_of_ble_eq_true rfl) ⟨Nat.zero_le _, Nat.zero_le _⟩ dX11_died_10 (fun H locs hP hD hS => ?_)
  refine lv_if_ne (tgt := 18) hx hb dX11_died_13 (by decide) (fun c_6 => ?_) (fun c_6 => ?_)
  · have hf := pbr_f c_6 hf
    refine lv_aload_n hx hb dX11_died_18 rfl (lv_at hl 0 rfl) ?_
    refine va_get (D := D) (ci := 11) (v := .ref q_trees) (C := RX11) (T := TX11) (N := 11) hx hb hts hn_X11_died_X11 hown hK hP 0 rfl rfl 2 (by decide) (hts _ hw_X11_died_f26) (fun _ h9 => h9) rfl dX11_died_19 ?_
    refine lv_iload_n hx hb dX11_died_22 rfl (lv_at hl 1 rfl) ?_
    obtain ⟨r_7, hc_8, hf⟩ := pcl_e hf
    refine m_callV (As := [.int x1]) (rest := []) ⟨hx, hb, hml, hown, hts⟩ hX (ct_X10_laidOn l D cA x1 q_trees q_trees_woodCounts q_trees_livingRings q_trees_woodRings q_trees_ends r_trees_woodRings s_trees_livingCount s_trees_firstYear s_trees_woodCounts s_trees_livingRings s_trees_woodRings r_7 hc_8) (cwV 1 hts gX11_died_X10_laidOn rfl rfl rfl (by decide +kernel) ⟨Nat.le_of_ble_eq_true rfl, Nat.le_of_ble_eq_true rfl⟩) hP hD hS hA [1, 2, 3, 5, 6, 7, 8, 9] (by decide) rfl rfl (WS' := (w_X11_died a0 q_trees q_trees_woodCounts q_trees_livingRings q_trees_ends q_trees_woodRings q_text q_ocean q_found q_images q_search q_stories q_signs q_calendar q_draft r_trees_woodRings cA s_yearOfNow s_trees_livingCount s_trees_firstYear s_trees_woodCounts s_trees_livingRings s_trees_ends s_trees_woodRings)) rfl 1 10 rfl rfl rfl hl.1 rfl (st' := [.int r_7]) rfl (Nat.le_of_ble_eq_true rfl) ⟨Nat.zero_le _, Nat.zero_le _⟩ dX11_died_23 (fun H locs hP hD hS => ?_)
    refine lv_istore_n (lv' := [(3, .int r_7), (0, .ref a0), (1, .int x1), (2, .int x2)]) hx hb dX11_died_26 rfl hl (by decide) rfl (fun ls hl => ?_)
    refine lv_iload_n hx hb dX11_died_27 rfl (lv_at hl 0 rfl) ?_
    refine lv_bipush (v := (-9 : Int32)) hx hb dX11_died_28 (by decide) ?_
    refine lv_icmp_eq (tgt := 37) hx hb dX11_died_30 (by decide) (fun c_9 => ?_) (fun c_9 => ?_)
    · have hf := pbr_t c_9 hf
      refine lv_iload_n hx hb dX11_died_37 rfl (lv_at hl 0 rfl) ?_
      cases hf
      exact m_iret hx hb hr hlocks hP hS dX11_died_38
    have hf := pbr_f c_9 hf
    refine lv_iload_n hx hb dX11_died_33 rfl (lv_at hl 3 rfl) ?_
    refine lv_if_ne (tgt := 39) hx hb dX11_died_34 (by decide) (fun c_10 => ?_) (fun c_10 => ?_)
    · have hf := pbr_f c_10 hf
      refine lv_iload_n hx hb dX11_died_39 rfl (lv_at hl 3 rfl) ?_
      refine lv_iconst (v := (1 : Int32)) hx hb dX11_died_40 (by decide) ?_
      refine lv_icmp_ne (tgt := 56) hx hb dX11_died_41 (by decide) (fun c_11 => ?_) (fun c_11 => ?_)
      · have hf := pbr_f c_11 hf
        refine lv_aload_n hx hb dX11_died_56 rfl (lv_at hl 1 rfl) ?_
        refine va_get (D := D) (ci := 11) (v := .ref q_trees) (C := RX11) (T := TX11) (N := 11) hx hb hts hn_X11_died_X11 hown hK hP 0 rfl rfl 2 (by decide) (hts _ hw_X11_died_f26) (fun _ h9 => h9) rfl dX11_died_57 ?_
        refine va_getN (D := D) (ci := 10) (v := .ref q_trees_ends) (C := RX10) (T := TX10) (N := 6) hx hb hts hn_X11_died_X10 hown hK hP 1 rfl rfl 3 (by decide) (va_Nw.use rfl (hN _ nw_X11_241)) (fun _ h9 => h9) rfl dX11_died_60 ?_
        refine lv_iload_n hx hb dX11_died_63 rfl (lv_at hl 2 rfl) ?_
        obtain ⟨g_12, hf⟩ := pgd_e hf
        refine va_iald hx hb hK hP 4 1 rfl rfl g_12 dX11_died_64 ?_
        cases hf
        exact m_iret hx hb hr hlocks hP hS dX11_died_65
      have hf := pbr_t c_11 hf
      refine lv_aload_n hx hb dX11_died_44 rfl (lv_at hl 1 rfl) ?_
      refine va_get (D := D) (ci := 11) (v := .ref q_trees) (C := RX11) (T := TX11) (N := 11) hx hb hts hn_X11_died_X11 hown hK hP 0 rfl rfl 2 (by decide) (hts _ hw_X11_died_f26) (fun _ h9 => h9) rfl dX11_died_45 ?_
      refine lv_iload_n hx hb dX11_died_48 rfl (lv_at hl 2 rfl) ?_
      refine lv_iload_n hx hb dX11_died_49 rfl (lv_at hl 0 rfl) ?_
      obtain ⟨r_13, hc_14, hf⟩ := pcl_e hf
      refine m_callV (As := [.int x1, .int r_7]) (rest := []) ⟨hx, hb, hml, hown, hts⟩ hX (ct_X10_lastYear l D cA x1 r_7 q_trees q_trees_woodCounts q_trees_livingRings q_trees_woodRings q_trees_ends s_trees_livingCount s_trees_firstYear s_trees_woodCounts r_13 hc_14) (cwV 2 hts gX11_died_X10_lastYear rfl rfl rfl (by decide +kernel) ⟨Nat.le_of_ble_eq_true rfl, Nat.le_of_ble_eq_true rfl⟩) hP hD hS hA [1, 2] (by decide) rfl rfl (WS' := (w_X11_died a0 q_trees q_trees_woodCounts q_trees_livingRings q_trees_ends q_trees_woodRings q_text q_ocean q_found q_images q_search q_stories q_signs q_calendar q_draft r_trees_woodRings cA s_yearOfNow s_trees_livingCount s_trees_firstYear s_trees_woodCounts s_trees_livingRings s_trees_ends s_trees_woodRings)) rfl 1 10 rfl rfl rfl hl.1 rfl (st' := [.int r_13]) rfl (Nat.le_of_ble_eq_true rfl) ⟨Nat.zero_le _, Nat.zero_le _⟩ dX11_died_50 (fun H locs hP hD hS => ?_)
      refine lv_goto (tgt := 65) hx hb dX11_died_53 (by decide) ?_
      cases hf
      exact m_iret hx hb hr hlocks hP hS dX11_died_65
    have hf := pbr_t c_10 hf
    refine lv_iload_n hx hb dX11_died_37 rfl (lv_at hl 0 rfl) ?_
    cases hf
    exact m_iret hx hb hr hlocks hP hS dX11_died_38
  have hf := pbr_t c_6 hf
  refine lv_iconst (v := (-1 : Int32)) hx hb dX11_died_16 (by decide) ?_
  cases hf
  exact m_iret hx hb hr hlocks hP hS dX11_died_17

/-! ===== OrphanWave.alike()I ===== -/
abbrev rm_X11_alike : Room := { frames := 4, cells := 0, slots := 0, locals := 95 }
abbrev wx_X11_alike (a0 : Nat) (q_trees : Nat) (q_trees_woodCounts : Nat) (q_trees_livingRings : Nat) (q_trees_ends : Nat) (q_trees_woodRings : Nat) (q_text : Nat) (q_ocean : Nat) (q_found : Nat) (q_images : Nat) (q_search : Nat) (q_stories : Nat) (q_signs : Nat) (q_calendar : Nat) (q_draft : Nat) (r_trees_woodRings : Nat → Nat) (cA : Nat → ClassId) (s_yearOfNow : Int32) (s_trees_livingCount : Int32) (s_trees_firstYear : Int32) (s_trees_woodCounts : Nat → Int32) (s_trees_livingRings : Nat → Int32) (s_trees_ends : Nat → Int32) (s_trees_woodRings : Nat → Nat → Int32) : va_W := [(a0, .inr (11, [.ref q_text, .ref q_ocean, .ref q_trees, .ref q_found, .ref q_images, .ref q_search, .ref q_stories, .ref q_signs, .ref q_calendar, .ref q_draft, .int s_yearOfNow])), (q_trees, .inr (10, [.ref q_trees_livingRings, .ref q_trees_woodRings, .ref q_trees_woodCounts, .ref q_trees_ends, .int s_trees_livingCount, .int s_trees_firstYear])), (q_trees_woodCounts, .inl (cA 1, 4, .inl s_trees_woodCounts)), (q_trees_livingRings, .inl (cA 1, 60, .inl s_trees_livingRings)), (q_trees_ends, .inl (cA 1, 4, .inl s_trees_ends)), (q_trees_woodRings, .inl (cA 5, 4, .inr (.inr (.inr (.inr (gro 4 r_trees_woodRings))))))]
abbrev w_X11_alike (a0 : Nat) (q_trees : Nat) (q_trees_woodCounts : Nat) (q_trees_livingRings : Nat) (q_trees_ends : Nat) (q_trees_woodRings : Nat) (q_text : Nat) (q_ocean : Nat) (q_found : Nat) (q_images : Nat) (q_search : Nat) (q_stories : Nat) (q_signs : Nat) (q_calendar : Nat) (q_draft : Nat) (r_trees_woodRings : Nat → Nat) (cA : Nat → ClassId) (s_yearOfNow : Int32) (s_trees_livingCount : Int32) (s_trees_firstYear : Int32) (s_trees_woodCounts : Nat → Int32) (s_trees_livingRings : Nat → Int32) (s_trees_ends : Nat → Int32) (s_trees_woodRings : Nat → Nat → Int32) : va_W := [(a0, .inr (11, [.ref q_text, .ref q_ocean, .ref q_trees, .ref q_found, .ref q_images, .ref q_search, .ref q_stories, .ref q_signs, .ref q_calendar, .ref q_draft, .int s_yearOfNow])), (q_trees, .inr (10, [.ref q_trees_livingRings, .ref q_trees_woodRings, .ref q_trees_woodCounts, .ref q_trees_ends, .int s_trees_livingCount, .int s_trees_firstYear])), (q_trees_woodCounts, .inl (cA 1, 4, .inl s_trees_woodCounts)), (q_trees_livingRings, .inl (cA 1, 60, .inl s_trees_livingRings)), (q_trees_ends, .inl (cA 1, 4, .inl s_trees_ends)), (q_trees_woodRings, .inl (cA 5, 4, .inr (.inr (.inr (.inr (gro 4 r_trees_woodRings))))))] ++ grw 4 r_trees_woodRings (cA 1) 30 s_trees_woodRings
theorem hn_X11_alike_X11 : ∀ w ∈ u_ws RX11 TX11 11, w ∈ wsX11_alike := by decide +kernel
theorem hw_X11_alike_f26 : Cond.fieldLink RX11 26 "OrphanWave" "trees" "LOrphanWave$Trees;" ∈ wsX11_alike := by decide +kernel

def f_X11_alike (s_trees_livingCount : Int32) (s_trees_firstYear : Int32) (s_trees_woodCounts : Nat → Int32) (s_trees_livingRings : Nat → Int32) (s_trees_ends : Nat → Int32) (s_trees_woodRings : Nat → Nat → Int32) : Option ((Int32)) :=
  pcl (f_X10_sharedDeath s_trees_livingCount s_trees_firstYear s_trees_woodCounts s_trees_livingRings s_trees_ends s_trees_woodRings) (fun r_1 => (
  some (r_1)))

set_option maxRecDepth 100000 in
set_option maxHeartbeats 4000000 in
theorem ct_X11_alike (l : Launch) (D : va_G) (cA : Nat → ClassId) (a0 : Nat) (q_trees : Nat) (q_trees_woodCounts : Nat) (q_trees_livingRings : Nat) (q_trees_ends : Nat) (q_trees_woodRings : Nat) (q_text : Nat) (q_ocean : Nat) (q_found : Nat) (q_images : Nat) (q_search : Nat) (q_stories : Nat) (q_signs : Nat) (q_calendar : Nat) (q_draft : Nat) (r_trees_woodRings : Nat → Nat) (s_yearOfNow : Int32) (s_trees_livingCount : Int32) (s_trees_firstYear : Int32) (s_trees_woodCounts : Nat → Int32) (s_trees_livingRings : Nat → Int32) (s_trees_ends : Nat → Int32) (s_trees_woodRings : Nat → Nat → Int32) (o_r : Int32) (hf : f_X11_alike s_trees_livingCount s_trees_firstYear s_trees_woodCounts s_trees_livingRings s_trees_ends s_trees_woodRings = some o_r) : CT l yX11_alike wsX11_alike rm_X11_alike D cA [.ref a0] (w_X11_alike a0 q_trees q_trees_woodCounts q_trees_livingRings q_trees_ends q_trees_woodRings q_text q_ocean q_found q_images q_search q_stories q_signs q_calendar q_draft r_trees_woodRings cA s_yearOfNow s_trees_livingCount s_trees_firstYear s_trees_woodCounts s_trees_livingRings s_trees_ends s_trees_woodRings) (w_X11_alike a0 q_trees q_trees_woodCounts q_trees_livingRings q_trees_ends q_trees_woodRings q_text q_ocean q_found q_images q_search q_stories q_signs q_calendar q_draft r_trees_woodRings cA s_yearOfNow s_trees_livingCount s_trees_firstYear s_trees_woodCounts s_trees_livingRings s_trees_ends s_trees_woodRings) (some (.int o_r)) := by
  refine CT.ofW (cc := cX11_alike) (maxL := 1) (ret := (some .int)) (by decide +kernel) rfl (Nat.le_of_ble_eq_true rfl) ?_
  intro p e s m below meth c A C0 hA hP hD ls hl
  have C0 : MX p s m [.ref a0].toArray meth c cX11_alike 1 wsX11_alike RX11 (some .int) D cA := C0
  have hl : lv_has ls 1 [(0, .ref a0)] := hl
  obtain ⟨hx, hb, hml, hown, hts, hr, hlocks, hX⟩ := id C0
  have hK := hX.1
  have hN := hX.2
  have hS : va_S A s.heap s.heap [] := va_S.rf
  unfold f_X11_alike at hf
  refine lv_aload_n hx hb dX11_alike_0 rfl (lv_at hl 0 rfl) ?_
  refine va_get (D := D) (ci := 11) (v := .ref q_trees) (C := RX11) (T := TX11) (N := 11) hx hb hts hn_X11_alike_X11 hown hK hP 0 rfl rfl 2 (by decide) (hts _ hw_X11_alike_f26) (fun _ h9 => h9) rfl dX11_alike_1 ?_
  obtain ⟨r_1, hc_2, hf⟩ := pcl_e hf
  refine m_callV (As := []) (rest := []) ⟨hx, hb, hml, hown, hts⟩ hX (ct_X10_sharedDeath l D cA q_trees q_trees_woodCounts q_trees_livingRings q_trees_ends q_trees_woodRings r_trees_woodRings s_trees_livingCount s_trees_firstYear s_trees_woodCounts s_trees_livingRings s_trees_ends s_trees_woodRings r_1 hc_2) (cwV 0 hts gX11_alike_X10_sharedDeath rfl rfl rfl (by decide +kernel) ⟨Nat.le_of_ble_eq_true rfl, Nat.le_of_ble_eq_true rfl⟩) hP hD hS hA [1, 2, 3, 4, 5, 6, 7, 8, 9] (by decide) rfl rfl (WS' := (w_X11_alike a0 q_trees q_trees_woodCounts q_trees_livingRings q_trees_ends q_trees_woodRings q_text q_ocean q_found q_images q_search q_stories q_signs q_calendar q_draft r_trees_woodRings cA s_yearOfNow s_trees_livingCount s_trees_firstYear s_trees_woodCounts s_trees_livingRings s_trees_ends s_trees_woodRings)) rfl 1 10 rfl rfl rfl hl.1 rfl (st' := [.int r_1]) rfl (Nat.le_of_ble_eq_true rfl) ⟨Nat.zero_le _, Nat.zero_le _⟩ dX11_alike_4 (fun H locs hP hD hS => ?_)
  cases hf
  exact m_iret hx hb hr hlocks hP hS dX11_alike_7

/-! ===== OrphanWave.sheet(III)I ===== -/
abbrev rm_X11_sheet : Room := { frames := 2, cells := 0, slots := 0, locals := 42 }
abbrev w_X11_sheet (a0 : Nat) (q_found : Nat) (q_found_sheets : Nat) (q_found_sheets_marshes : Nat) (q_found_sheets_olds : Nat) (q_found_sheets_youngs : Nat) (q_text : Nat) (q_ocean : Nat) (q_trees : Nat) (q_images : Nat) (q_search : Nat) (q_stories : Nat) (q_signs : Nat) (q_calendar : Nat) (q_draft : Nat) (q_found_books : Nat) (q_found_known : Nat) (q_found_weights : Nat) (cA : Nat → ClassId) (s_yearOfNow : Int32) (s_found_dugMarshes : Int32) (s_found_kept : Int32) (s_found_sheets_count : Int32) (s_found_sheets_marshes : Nat → Int32) (s_found_sheets_olds : Nat → Int32) (s_found_sheets_youngs : Nat → Int32) : va_W := [(a0, .inr (11, [.ref q_text, .ref q_ocean, .ref q_trees, .ref q_found, .ref q_images, .ref q_search, .ref q_stories, .ref q_signs, .ref q_calendar, .ref q_draft, .int s_yearOfNow])), (q_found, .inr (2, [.ref q_found_books, .ref q_found_sheets, .ref q_found_known, .ref q_found_weights, .int s_found_dugMarshes, .int s_found_kept])), (q_found_sheets, .inr (6, [.ref q_found_sheets_marshes, .ref q_found_sheets_olds, .ref q_found_sheets_youngs, .int s_found_sheets_count])), (q_found_sheets_marshes, .inl (cA 1, 12, .inl s_found_sheets_marshes)), (q_found_sheets_olds, .inl (cA 1, 12, .inl s_found_sheets_olds)), (q_found_sheets_youngs, .inl (cA 1, 12, .inl s_found_sheets_youngs))]
theorem hn_X11_sheet_X11 : ∀ w ∈ u_ws RX11 TX11 11, w ∈ wsX11_sheet := by decide +kernel
theorem hn_X11_sheet_X2 : ∀ w ∈ u_ws RX2 TX2 6, w ∈ wsX11_sheet := by decide +kernel
theorem hn_X11_sheet_X6 : ∀ w ∈ u_ws RX6 TX6 4, w ∈ wsX11_sheet := by decide +kernel
theorem hw_X11_sheet_f33 : Cond.fieldLink RX11 33 "OrphanWave" "found" "LOrphanWave$Findings;" ∈ wsX11_sheet := by decide +kernel

def f_X11_sheet (x1 : Int32) (x2 : Int32) (x3 : Int32) (s_found_sheets_count : Int32) (s_found_sheets_marshes : Nat → Int32) (s_found_sheets_olds : Nat → Int32) (s_found_sheets_youngs : Nat → Int32) : Option ((Int32) × (Int32) × (Nat → Int32) × (Nat → Int32) × (Nat → Int32)) :=
  pcl (f_X11_isMarsh x1) (fun r_1 => (
  pbr (r_1 = 0)
    (some ((-1 : Int32), s_found_sheets_count, s_found_sheets_marshes, s_found_sheets_olds, s_found_sheets_youngs))
    (pcl (f_X11_isSpan x2 x3 (0 : Int32) (9999 : Int32)) (fun r_4 => (
    pbr (r_4 = 0)
      (some ((-1 : Int32), s_found_sheets_count, s_found_sheets_marshes, s_found_sheets_olds, s_found_sheets_youngs))
      (pbr (s_found_sheets_count < (12 : Int32))
        (pcl (f_X6_add x1 x2 x3 s_found_sheets_count s_found_sheets_marshes s_found_sheets_olds s_found_sheets_youngs) (fun (r_8, count_9, marshes_10, olds_11, youngs_12) => (
        some (r_8, count_9, marshes_10, olds_11, youngs_12))))
        (some ((-3 : Int32), s_found_sheets_count, s_found_sheets_marshes, s_found_sheets_olds, s_found_sheets_youngs))))))))

set_option maxRecDepth 100000 in
set_option maxHeartbeats 4000000 in
theorem ct_X11_sheet (l : Launch) (D : va_G) (cA : Nat → ClassId) (x1 : Int32) (x2 : Int32) (x3 : Int32) (a0 : Nat) (q_found : Nat) (q_found_sheets : Nat) (q_found_sheets_marshes : Nat) (q_found_sheets_olds : Nat) (q_found_sheets_youngs : Nat) (q_text : Nat) (q_ocean : Nat) (q_trees : Nat) (q_images : Nat) (q_search : Nat) (q_stories : Nat) (q_signs : Nat) (q_calendar : Nat) (q_draft : Nat) (q_found_books : Nat) (q_found_known : Nat) (q_found_weights : Nat) (s_yearOfNow : Int32) (s_found_dugMarshes : Int32) (s_found_kept : Int32) (s_found_sheets_count : Int32) (s_found_sheets_marshes : Nat → Int32) (s_found_sheets_olds : Nat → Int32) (s_found_sheets_youngs : Nat → Int32) (o_r : Int32) (o_found_sheets_count : Int32) (o_found_sheets_marshes : Nat → Int32) (o_found_sheets_olds : Nat → Int32) (o_found_sheets_youngs : Nat → Int32) (hf : f_X11_sheet x1 x2 x3 s_found_sheets_count s_found_sheets_marshes s_found_sheets_olds s_found_sheets_youngs = some (o_r, o_found_sheets_count, o_found_sheets_marshes, o_found_sheets_olds, o_found_sheets_youngs)) : CT l yX11_sheet wsX11_sheet rm_X11_sheet D cA [.ref a0, .int x1, .int x2, .int x3] (w_X11_sheet a0 q_found q_found_sheets q_found_sheets_marshes q_found_sheets_olds q_found_sheets_youngs q_text q_ocean q_trees q_images q_search q_stories q_signs q_calendar q_draft q_found_books q_found_known q_found_weights cA s_yearOfNow s_found_dugMarshes s_found_kept s_found_sheets_count s_found_sheets_marshes s_found_sheets_olds s_found_sheets_youngs) (w_X11_sheet a0 q_found q_found_sheets q_found_sheets_marshes q_found_sheets_olds q_found_sheets_youngs q_text q_ocean q_trees q_images q_search q_stories q_signs q_calendar q_draft q_found_books q_found_known q_found_weights cA s_yearOfNow s_found_dugMarshes s_found_kept o_found_sheets_count o_found_sheets_marshes o_found_sheets_olds o_found_sheets_youngs) (some (.int o_r)) := by
  refine CT.ofW (cc := cX11_sheet) (maxL := 4) (ret := (some .int)) (by decide +kernel) rfl (Nat.le_of_ble_eq_true rfl) ?_
  intro p e s m below meth c A C0 hA hP hD ls hl
  have C0 : MX p s m [.ref a0, .int x1, .int x2, .int x3].toArray meth c cX11_sheet 4 wsX11_sheet RX11 (some .int) D cA := C0
  have hl : lv_has ls 4 [(0, .ref a0), (1, .int x1), (2, .int x2), (3, .int x3)] := hl
  obtain ⟨hx, hb, hml, hown, hts, hr, hlocks, hX⟩ := id C0
  have hK := hX.1
  have hN := hX.2
  have hS : va_S A s.heap s.heap [] := va_S.rf
  unfold f_X11_sheet at hf
  refine lv_iload_n hx hb dX11_sheet_0 rfl (lv_at hl 1 rfl) ?_
  obtain ⟨r_1, hc_2, hf⟩ := pcl_e hf
  refine m_callS (As := [.int x1]) (rest := []) ⟨hx, hb, hml, hown, hts⟩ hX (ct_X11_isMarsh l D cA x1 r_1 hc_2) (va_cwS 1 hts gX11_sheet_X11_isMarsh rfl rfl rfl (by decide +kernel) ⟨Nat.le_of_ble_eq_true rfl, Nat.le_of_ble_eq_true rfl⟩) hP hD hS hA [] (by decide) rfl rfl (WS' := (w_X11_sheet a0 q_found q_found_sheets q_found_sheets_marshes q_found_sheets_olds q_found_sheets_youngs q_text q_ocean q_trees q_images q_search q_stories q_signs q_calendar q_draft q_found_books q_found_known q_found_weights cA s_yearOfNow s_found_dugMarshes s_found_kept s_found_sheets_count s_found_sheets_marshes s_found_sheets_olds s_found_sheets_youngs)) rfl rfl hl.1 rfl (st' := [.int r_1]) rfl (Nat.le_of_ble_eq_true rfl) ⟨Nat.zero_le _, Nat.zero_le _⟩ dX11_sheet_1 (fun H locs hP hD hS => ?_)
  refine lv_if_eq (tgt := 19) hx hb dX11_sheet_4 (by decide) (fun c_3 => ?_) (fun c_3 => ?_)
  · have hf := pbr_t c_3 hf
    refine lv_iconst (v := (-1 : Int32)) hx hb dX11_sheet_19 (by decide) ?_
    cases hf
    exact m_iret hx hb hr hlocks hP hS dX11_sheet_20
  have hf := pbr_f c_3 hf
  refine lv_iload_n hx hb dX11_sheet_7 rfl (lv_at hl 2 rfl) ?_
  refine lv_iload_n hx hb dX11_sheet_8 rfl (lv_at hl 3 rfl) ?_
  refine lv_iconst (v := (0 : Int32)) hx hb dX11_sheet_9 (by decide) ?_
  refine lv_sipush (v := (9999 : Int32)) hx hb dX11_sheet_10 (by decide) ?_
  obtain ⟨r_4, hc_5, hf⟩ := pcl_e hf
  refine m_callS (As := [.int x2, .int x3, .int (0 : Int32), .int (9999 : Int32)]) (rest := []) ⟨hx, hb, hml, hown, hts⟩ hX (ct_X11_isSpan l D cA x2 x3 (0 : Int32) (9999 : Int32) r_4 hc_5) (va_cwS 4 hts gX11_sheet_X11_isSpan rfl rfl rfl (by decide +kernel) ⟨Nat.le_of_ble_eq_true rfl, Nat.le_of_ble_eq_true rfl⟩) hP hD hS hA [] (by decide) rfl rfl (WS' := (w_X11_sheet a0 q_found q_found_sheets q_found_sheets_marshes q_found_sheets_olds q_found_sheets_youngs q_text q_ocean q_trees q_images q_search q_stories q_signs q_calendar q_draft q_found_books q_found_known q_found_weights cA s_yearOfNow s_found_dugMarshes s_found_kept s_found_sheets_count s_found_sheets_marshes s_found_sheets_olds s_found_sheets_youngs)) rfl rfl hl.1 rfl (st' := [.int r_4]) rfl (Nat.le_of_ble_eq_true rfl) ⟨Nat.zero_le _, Nat.zero_le _⟩ dX11_sheet_13 (fun H locs hP hD hS => ?_)
  refine lv_if_ne (tgt := 21) hx hb dX11_sheet_16 (by decide) (fun c_6 => ?_) (fun c_6 => ?_)
  · have hf := pbr_f c_6 hf
    refine lv_aload_n hx hb dX11_sheet_21 rfl (lv_at hl 0 rfl) ?_
    refine va_get (D := D) (ci := 11) (v := .ref q_found) (C := RX11) (T := TX11) (N := 11) hx hb hts hn_X11_sheet_X11 hown hK hP 0 rfl rfl 3 (by decide) (hts _ hw_X11_sheet_f33) (fun _ h9 => h9) rfl dX11_sheet_22 ?_
    refine va_getN (D := D) (ci := 2) (v := .ref q_found_sheets) (C := RX2) (T := TX2) (N := 6) hx hb hts hn_X11_sheet_X2 hown hK hP 1 rfl rfl 1 (by decide) (va_Nw.use rfl (hN _ nw_X11_250)) (fun _ h9 => h9) rfl dX11_sheet_25 ?_
    refine va_getN (D := D) (ci := 6) (v := .int s_found_sheets_count) (C := RX6) (T := TX6) (N := 4) hx hb hts hn_X11_sheet_X6 hown hK hP 2 rfl rfl 3 (by decide) (va_Nw.use rfl (hN _ nw_X11_254)) (fun _ h9 => h9) rfl dX11_sheet_28 ?_
    refine lv_bipush (v := (12 : Int32)) hx hb dX11_sheet_31 (by decide) ?_
    refine lv_icmp_lt (tgt := 41) hx hb dX11_sheet_33 (by decide) (fun c_7 => ?_) (fun c_7 => ?_)
    · have hf := pbr_t c_7 hf
      refine lv_aload_n hx hb dX11_sheet_41 rfl (lv_at hl 0 rfl) ?_
      refine va_get (D := D) (ci := 11) (v := .ref q_found) (C := RX11) (T := TX11) (N := 11) hx hb hts hn_X11_sheet_X11 hown hK hP 0 rfl rfl 3 (by decide) (hts _ hw_X11_sheet_f33) (fun _ h9 => h9) rfl dX11_sheet_42 ?_
      refine va_getN (D := D) (ci := 2) (v := .ref q_found_sheets) (C := RX2) (T := TX2) (N := 6) hx hb hts hn_X11_sheet_X2 hown hK hP 1 rfl rfl 1 (by decide) (va_Nw.use rfl (hN _ nw_X11_250)) (fun _ h9 => h9) rfl dX11_sheet_45 ?_
      refine lv_iload_n hx hb dX11_sheet_48 rfl (lv_at hl 1 rfl) ?_
      refine lv_iload_n hx hb dX11_sheet_49 rfl (lv_at hl 2 rfl) ?_
      refine lv_iload_n hx hb dX11_sheet_50 rfl (lv_at hl 3 rfl) ?_
      obtain ⟨⟨r_8, count_9, marshes_10, olds_11, youngs_12⟩, hc_13, hf⟩ := pcl_e hf
      refine m_callV (As := [.int x1, .int x2, .int x3]) (rest := []) ⟨hx, hb, hml, hown, hts⟩ hX (ct_X6_add l D cA x1 x2 x3 q_found_sheets q_found_sheets_marshes q_found_sheets_olds q_found_sheets_youngs s_found_sheets_count s_found_sheets_marshes s_found_sheets_olds s_found_sheets_youngs r_8 count_9 marshes_10 olds_11 youngs_12 hc_13) (cwV 3 hts gX11_sheet_X6_add rfl rfl rfl (by decide +kernel) ⟨Nat.le_of_ble_eq_true rfl, Nat.le_of_ble_eq_true rfl⟩) hP hD hS hA [2, 3, 4, 5] (by decide) rfl rfl (WS' := (w_X11_sheet a0 q_found q_found_sheets q_found_sheets_marshes q_found_sheets_olds q_found_sheets_youngs q_text q_ocean q_trees q_images q_search q_stories q_signs q_calendar q_draft q_found_books q_found_known q_found_weights cA s_yearOfNow s_found_dugMarshes s_found_kept count_9 marshes_10 olds_11 youngs_12)) rfl 2 6 rfl rfl rfl hl.1 rfl (st' := [.int r_8]) rfl (Nat.le_of_ble_eq_true rfl) ⟨Nat.zero_le _, Nat.zero_le _⟩ dX11_sheet_51 (fun H locs hP hD hS => ?_)
      cases hf
      exact m_iret hx hb hr hlocks hP hS dX11_sheet_54
    have hf := pbr_f c_7 hf
    refine lv_bipush (v := (-3 : Int32)) hx hb dX11_sheet_36 (by decide) ?_
    refine lv_goto (tgt := 54) hx hb dX11_sheet_38 (by decide) ?_
    cases hf
    exact m_iret hx hb hr hlocks hP hS dX11_sheet_54
  have hf := pbr_t c_6 hf
  refine lv_iconst (v := (-1 : Int32)) hx hb dX11_sheet_19 (by decide) ?_
  cases hf
  exact m_iret hx hb hr hlocks hP hS dX11_sheet_20

/-! ===== OrphanWave.together(II)I ===== -/
abbrev rm_X11_together : Room := { frames := 2, cells := 0, slots := 0, locals := 36 }
abbrev w_X11_together (a0 : Nat) (q_found : Nat) (q_found_sheets : Nat) (q_found_sheets_olds : Nat) (q_found_sheets_youngs : Nat) (q_text : Nat) (q_ocean : Nat) (q_trees : Nat) (q_images : Nat) (q_search : Nat) (q_stories : Nat) (q_signs : Nat) (q_calendar : Nat) (q_draft : Nat) (q_found_books : Nat) (q_found_known : Nat) (q_found_weights : Nat) (q_found_sheets_marshes : Nat) (cA : Nat → ClassId) (s_yearOfNow : Int32) (s_found_dugMarshes : Int32) (s_found_kept : Int32) (s_found_sheets_count : Int32) (s_found_sheets_olds : Nat → Int32) (s_found_sheets_youngs : Nat → Int32) : va_W := [(a0, .inr (11, [.ref q_text, .ref q_ocean, .ref q_trees, .ref q_found, .ref q_images, .ref q_search, .ref q_stories, .ref q_signs, .ref q_calendar, .ref q_draft, .int s_yearOfNow])), (q_found, .inr (2, [.ref q_found_books, .ref q_found_sheets, .ref q_found_known, .ref q_found_weights, .int s_found_dugMarshes, .int s_found_kept])), (q_found_sheets, .inr (6, [.ref q_found_sheets_marshes, .ref q_found_sheets_olds, .ref q_found_sheets_youngs, .int s_found_sheets_count])), (q_found_sheets_olds, .inl (cA 1, 12, .inl s_found_sheets_olds)), (q_found_sheets_youngs, .inl (cA 1, 12, .inl s_found_sheets_youngs))]
theorem hn_X11_together_X11 : ∀ w ∈ u_ws RX11 TX11 11, w ∈ wsX11_together := by decide +kernel
theorem hn_X11_together_X2 : ∀ w ∈ u_ws RX2 TX2 6, w ∈ wsX11_together := by decide +kernel
theorem hw_X11_together_f33 : Cond.fieldLink RX11 33 "OrphanWave" "found" "LOrphanWave$Findings;" ∈ wsX11_together := by decide +kernel

def f_X11_together (x1 : Int32) (x2 : Int32) (s_found_sheets_count : Int32) (s_found_sheets_olds : Nat → Int32) (s_found_sheets_youngs : Nat → Int32) : Option ((Int32)) :=
  pcl (f_X6_all s_found_sheets_count) (fun r_1 => (
  plt ((x1 &&& r_1) : Int32) (fun x3_3 => (
  pbr (x3_3 = 0)
    (some ((-1 : Int32)))
    (pcl (f_X11_isBit x2) (fun r_5 => (
    pbr (r_5 = 0)
      (some ((-1 : Int32)))
      (pcl (f_X6_firstShared x3_3 s_found_sheets_count s_found_sheets_olds) (fun r_8 => (
      pcl (f_X6_lastShared x3_3 s_found_sheets_count s_found_sheets_youngs) (fun r_10 => (
      pbr (r_8 ≤ r_10)
        (pbr (x2 = 0)
          (some (r_8))
          (some (r_10)))
        (some ((-9 : Int32)))))))))))))))

set_option maxRecDepth 100000 in
set_option maxHeartbeats 4000000 in
theorem ct_X11_together (l : Launch) (D : va_G) (cA : Nat → ClassId) (x1 : Int32) (x2 : Int32) (a0 : Nat) (q_found : Nat) (q_found_sheets : Nat) (q_found_sheets_olds : Nat) (q_found_sheets_youngs : Nat) (q_text : Nat) (q_ocean : Nat) (q_trees : Nat) (q_images : Nat) (q_search : Nat) (q_stories : Nat) (q_signs : Nat) (q_calendar : Nat) (q_draft : Nat) (q_found_books : Nat) (q_found_known : Nat) (q_found_weights : Nat) (q_found_sheets_marshes : Nat) (s_yearOfNow : Int32) (s_found_dugMarshes : Int32) (s_found_kept : Int32) (s_found_sheets_count : Int32) (s_found_sheets_olds : Nat → Int32) (s_found_sheets_youngs : Nat → Int32) (o_r : Int32) (hf : f_X11_together x1 x2 s_found_sheets_count s_found_sheets_olds s_found_sheets_youngs = some o_r) : CT l yX11_together wsX11_together rm_X11_together D cA [.ref a0, .int x1, .int x2] (w_X11_together a0 q_found q_found_sheets q_found_sheets_olds q_found_sheets_youngs q_text q_ocean q_trees q_images q_search q_stories q_signs q_calendar q_draft q_found_books q_found_known q_found_weights q_found_sheets_marshes cA s_yearOfNow s_found_dugMarshes s_found_kept s_found_sheets_count s_found_sheets_olds s_found_sheets_youngs) (w_X11_together a0 q_found q_found_sheets q_found_sheets_olds q_found_sheets_youngs q_text q_ocean q_trees q_images q_search q_stories q_signs q_calendar q_draft q_found_books q_found_known q_found_weights q_found_sheets_marshes cA s_yearOfNow s_found_dugMarshes s_found_kept s_found_sheets_count s_found_sheets_olds s_found_sheets_youngs) (some (.int o_r)) := by
  refine CT.ofW (cc := cX11_together) (maxL := 6) (ret := (some .int)) (by decide +kernel) rfl (Nat.le_of_ble_eq_true rfl) ?_
  intro p e s m below meth c A C0 hA hP hD ls hl
  have C0 : MX p s m [.ref a0, .int x1, .int x2].toArray meth c cX11_together 6 wsX11_together RX11 (some .int) D cA := C0
  have hl : lv_has ls 6 [(0, .ref a0), (1, .int x1), (2, .int x2)] := hl
  obtain ⟨hx, hb, hml, hown, hts, hr, hlocks, hX⟩ := id C0
  have hK := hX.1
  have hN := hX.2
  have hS : va_S A s.heap s.heap [] := va_S.rf
  unfold f_X11_together at hf
  refine lv_iload_n hx hb dX11_together_0 rfl (lv_at hl 1 rfl) ?_
  refine lv_aload_n hx hb dX11_together_1 rfl (lv_at hl 0 rfl) ?_
  refine va_get (D := D) (ci := 11) (v := .ref q_found) (C := RX11) (T := TX11) (N := 11) hx hb hts hn_X11_together_X11 hown hK hP 0 rfl rfl 3 (by decide) (hts _ hw_X11_together_f33) (fun _ h9 => h9) rfl dX11_together_2 ?_
  refine va_getN (D := D) (ci := 2) (v := .ref q_found_sheets) (C := RX2) (T := TX2) (N := 6) hx hb hts hn_X11_together_X2 hown hK hP 1 rfl rfl 1 (by decide) (va_Nw.use rfl (hN _ nw_X11_250)) (fun _ h9 => h9) rfl dX11_together_5 ?_
  obtain ⟨r_1, hc_2, hf⟩ := pcl_e hf
  refine m_callV (As := []) (rest := [.int x1]) ⟨hx, hb, hml, hown, hts⟩ hX (ct_X6_all l D cA q_found_sheets q_found_sheets_marshes q_found_sheets_olds q_found_sheets_youngs s_found_sheets_count r_1 hc_2) (cwV 0 hts gX11_together_X6_all rfl rfl rfl (by decide +kernel) ⟨Nat.le_of_ble_eq_true rfl, Nat.le_of_ble_eq_true rfl⟩) hP hD hS hA [2] (by decide) rfl rfl (WS' := (w_X11_together a0 q_found q_found_sheets q_found_sheets_olds q_found_sheets_youngs q_text q_ocean q_trees q_images q_search q_stories q_signs q_calendar q_draft q_found_books q_found_known q_found_weights q_found_sheets_marshes cA s_yearOfNow s_found_dugMarshes s_found_kept s_found_sheets_count s_found_sheets_olds s_found_sheets_youngs)) rfl 2 6 rfl rfl rfl hl.1 rfl (st' := [.int r_1, .int x1]) rfl (Nat.le_of_ble_eq_true rfl) ⟨Nat.zero_le _, Nat.zero_le _⟩ dX11_together_8 (fun H locs hP hD hS => ?_)
  refine lv_iand hx hb dX11_together_11 ?_
  refine lv_topi (fun x3_3 ex3_3 => ?_)
  have hf := plt_e ex3_3 hf
  refine lv_istore_n (lv' := [(3, .int x3_3), (0, .ref a0), (1, .int x1), (2, .int x2)]) hx hb dX11_together_12 rfl hl (by decide) rfl (fun ls hl => ?_)
  refine lv_iload_n hx hb dX11_together_13 rfl (lv_at hl 0 rfl) ?_
  refine lv_if_eq (tgt := 24) hx hb dX11_together_14 (by decide) (fun c_4 => ?_) (fun c_4 => ?_)
  · have hf := pbr_t c_4 hf
    refine lv_iconst (v := (-1 : Int32)) hx hb dX11_together_24 (by decide) ?_
    cases hf
    exact m_iret hx hb hr hlocks hP hS dX11_together_25
  have hf := pbr_f c_4 hf
  refine lv_iload_n hx hb dX11_together_17 rfl (lv_at hl 3 rfl) ?_
  obtain ⟨r_5, hc_6, hf⟩ := pcl_e hf
  refine m_callS (As := [.int x2]) (rest := []) ⟨hx, hb, hml, hown, hts⟩ hX (ct_X11_isBit l D cA x2 r_5 hc_6) (va_cwS 1 hts gX11_together_X11_isBit rfl rfl rfl (by decide +kernel) ⟨Nat.le_of_ble_eq_true rfl, Nat.le_of_ble_eq_true rfl⟩) hP hD hS hA [] (by decide) rfl rfl (WS' := (w_X11_together a0 q_found q_found_sheets q_found_sheets_olds q_found_sheets_youngs q_text q_ocean q_trees q_images q_search q_stories q_signs q_calendar q_draft q_found_books q_found_known q_found_weights q_found_sheets_marshes cA s_yearOfNow s_found_dugMarshes s_found_kept s_found_sheets_count s_found_sheets_olds s_found_sheets_youngs)) rfl rfl hl.1 rfl (st' := [.int r_5]) rfl (Nat.le_of_ble_eq_true rfl) ⟨Nat.zero_le _, Nat.zero_le _⟩ dX11_together_18 (fun H locs hP hD hS => ?_)
  refine lv_if_ne (tgt := 26) hx hb dX11_together_21 (by decide) (fun c_7 => ?_) (fun c_7 => ?_)
  · have hf := pbr_f c_7 hf
    refine lv_aload_n hx hb dX11_together_26 rfl (lv_at hl 1 rfl) ?_
    refine va_get (D := D) (ci := 11) (v := .ref q_found) (C := RX11) (T := TX11) (N := 11) hx hb hts hn_X11_together_X11 hown hK hP 0 rfl rfl 3 (by decide) (hts _ hw_X11_together_f33) (fun _ h9 => h9) rfl dX11_together_27 ?_
    refine va_getN (D := D) (ci := 2) (v := .ref q_found_sheets) (C := RX2) (T := TX2) (N := 6) hx hb hts hn_X11_together_X2 hown hK hP 1 rfl rfl 1 (by decide) (va_Nw.use rfl (hN _ nw_X11_250)) (fun _ h9 => h9) rfl dX11_together_30 ?_
    refine lv_iload_n hx hb dX11_together_33 rfl (lv_at hl 0 rfl) ?_
    obtain ⟨r_8, hc_9, hf⟩ := pcl_e hf
    refine m_callV (As := [.int x3_3]) (rest := []) ⟨hx, hb, hml, hown, hts⟩ hX (ct_X6_firstShared l D cA x3_3 q_found_sheets q_found_sheets_olds q_found_sheets_marshes q_found_sheets_youngs s_found_sheets_count s_found_sheets_olds r_8 hc_9) (cwV 1 hts gX11_together_X6_firstShared rfl rfl rfl (by decide +kernel) ⟨Nat.le_of_ble_eq_true rfl, Nat.le_of_ble_eq_true rfl⟩) hP hD hS hA [2, 3] (by decide) rfl rfl (WS' := (w_X11_together a0 q_found q_found_sheets q_found_sheets_olds q_found_sheets_youngs q_text q_ocean q_trees q_images q_search q_stories q_signs q_calendar q_draft q_found_books q_found_known q_found_weights q_found_sheets_marshes cA s_yearOfNow s_found_dugMarshes s_found_kept s_found_sheets_count s_found_sheets_olds s_found_sheets_youngs)) rfl 2 6 rfl rfl rfl hl.1 rfl (st' := [.int r_8]) rfl (Nat.le_of_ble_eq_true rfl) ⟨Nat.zero_le _, Nat.zero_le _⟩ dX11_together_34 (fun H locs hP hD hS => ?_)
    refine lv_istore (lv' := [(4, .int r_8), (3, .int x3_3), (0, .ref a0), (1, .int x1), (2, .int x2)]) hx hb dX11_together_37 hl (by decide) rfl (fun ls hl => ?_)
    refine lv_aload_n hx hb dX11_together_39 rfl (lv_at hl 2 rfl) ?_
    refine va_get (D := D) (ci := 11) (v := .ref q_found) (C := RX11) (T := TX11) (N := 11) hx hb hts hn_X11_together_X11 hown hK hP 0 rfl rfl 3 (by decide) (hts _ hw_X11_together_f33) (fun _ h9 => h9) rfl dX11_together_40 ?_
    refine va_getN (D := D) (ci := 2) (v := .ref q_found_sheets) (C := RX2) (T := TX2) (N := 6) hx hb hts hn_X11_together_X2 hown hK hP 1 rfl rfl 1 (by decide) (va_Nw.use rfl (hN _ nw_X11_250)) (fun _ h9 => h9) rfl dX11_together_43 ?_
    refine lv_iload_n hx hb dX11_together_46 rfl (lv_at hl 1 rfl) ?_
    obtain ⟨r_10, hc_11, hf⟩ := pcl_e hf
    refine m_callV (As := [.int x3_3]) (rest := []) ⟨hx, hb, hml, hown, hts⟩ hX (ct_X6_lastShared l D cA x3_3 q_found_sheets q_found_sheets_youngs q_found_sheets_marshes q_found_sheets_olds s_found_sheets_count s_found_sheets_youngs r_10 hc_11) (cwV 1 hts gX11_together_X6_lastShared rfl rfl rfl (by decide +kernel) ⟨Nat.le_of_ble_eq_true rfl, Nat.le_of_ble_eq_true rfl⟩) hP hD hS hA [2, 4] (by decide) rfl rfl (WS' := (w_X11_together a0 q_found q_found_sheets q_found_sheets_olds q_found_sheets_youngs q_text q_ocean q_trees q_images q_search q_stories q_signs q_calendar q_draft q_found_books q_found_known q_found_weights q_found_sheets_marshes cA s_yearOfNow s_found_dugMarshes s_found_kept s_found_sheets_count s_found_sheets_olds s_found_sheets_youngs)) rfl 2 6 rfl rfl rfl hl.1 rfl (st' := [.int r_10]) rfl (Nat.le_of_ble_eq_true rfl) ⟨Nat.zero_le _, Nat.zero_le _⟩ dX11_together_47 (fun H locs hP hD hS => ?_)
    refine lv_istore (lv' := [(5, .int r_10), (4, .int r_8), (3, .int x3_3), (0, .ref a0), (1, .int x1), (2, .int x2)]) hx hb dX11_together_50 hl (by decide) rfl (fun ls hl => ?_)
    refine lv_iload hx hb dX11_together_52 (lv_at hl 1 rfl) ?_
    refine lv_iload hx hb dX11_together_54 (lv_at hl 0 rfl) ?_
    refine lv_icmp_le (tgt := 62) hx hb dX11_together_56 (by decide) (fun c_12 => ?_) (fun c_12 => ?_)
    · have hf := pbr_t c_12 hf
      refine lv_iload_n hx hb dX11_together_62 rfl (lv_at hl 5 rfl) ?_
      refine lv_if_ne (tgt := 71) hx hb dX11_together_63 (by decide) (fun c_13 => ?_) (fun c_13 => ?_)
      · have hf := pbr_f c_13 hf
        refine lv_iload hx hb dX11_together_71 (lv_at hl 0 rfl) ?_
        cases hf
        exact m_iret hx hb hr hlocks hP hS dX11_together_73
      have hf := pbr_t c_13 hf
      refine lv_iload hx hb dX11_together_66 (lv_at hl 1 rfl) ?_
      refine lv_goto (tgt := 73) hx hb dX11_together_68 (by decide) ?_
      cases hf
      exact m_iret hx hb hr hlocks hP hS dX11_together_73
    have hf := pbr_f c_12 hf
    refine lv_bipush (v := (-9 : Int32)) hx hb dX11_together_59 (by decide) ?_
    cases hf
    exact m_iret hx hb hr hlocks hP hS dX11_together_61
  have hf := pbr_t c_7 hf
  refine lv_iconst (v := (-1 : Int32)) hx hb dX11_together_24 (by decide) ?_
  cases hf
  exact m_iret hx hb hr hlocks hP hS dX11_together_25

/-! ===== OrphanWave.slips()I ===== -/
abbrev rm_X11_slips : Room := { frames := 3, cells := 0, slots := 0, locals := 68 }
abbrev w_X11_slips (a0 : Nat) (q_found : Nat) (q_found_sheets : Nat) (q_found_sheets_youngs : Nat) (q_found_sheets_olds : Nat) (q_found_sheets_marshes : Nat) (q_text : Nat) (q_ocean : Nat) (q_trees : Nat) (q_images : Nat) (q_search : Nat) (q_stories : Nat) (q_signs : Nat) (q_calendar : Nat) (q_draft : Nat) (q_found_books : Nat) (q_found_known : Nat) (q_found_weights : Nat) (cA : Nat → ClassId) (s_yearOfNow : Int32) (s_found_dugMarshes : Int32) (s_found_kept : Int32) (s_found_sheets_count : Int32) (s_found_sheets_youngs : Nat → Int32) (s_found_sheets_olds : Nat → Int32) (s_found_sheets_marshes : Nat → Int32) : va_W := [(a0, .inr (11, [.ref q_text, .ref q_ocean, .ref q_trees, .ref q_found, .ref q_images, .ref q_search, .ref q_stories, .ref q_signs, .ref q_calendar, .ref q_draft, .int s_yearOfNow])), (q_found, .inr (2, [.ref q_found_books, .ref q_found_sheets, .ref q_found_known, .ref q_found_weights, .int s_found_dugMarshes, .int s_found_kept])), (q_found_sheets, .inr (6, [.ref q_found_sheets_marshes, .ref q_found_sheets_olds, .ref q_found_sheets_youngs, .int s_found_sheets_count])), (q_found_sheets_youngs, .inl (cA 1, 12, .inl s_found_sheets_youngs)), (q_found_sheets_olds, .inl (cA 1, 12, .inl s_found_sheets_olds)), (q_found_sheets_marshes, .inl (cA 1, 12, .inl s_found_sheets_marshes))]
theorem hn_X11_slips_X11 : ∀ w ∈ u_ws RX11 TX11 11, w ∈ wsX11_slips := by decide +kernel
theorem hn_X11_slips_X2 : ∀ w ∈ u_ws RX2 TX2 6, w ∈ wsX11_slips := by decide +kernel
theorem hw_X11_slips_f33 : Cond.fieldLink RX11 33 "OrphanWave" "found" "LOrphanWave$Findings;" ∈ wsX11_slips := by decide +kernel
theorem hw_X11_slips_m274 : Cond.methodLink RX11 274 Lib.Math.max.name ∈ wsX11_slips := by decide +kernel
theorem hw_X11_slips_smax : Cond.static Lib.Math.max.name ∈ wsX11_slips := by decide +kernel
theorem hw_X11_slips_imath : Cond.initialized "java/lang/Math" ∈ wsX11_slips := by decide +kernel
theorem hw_X11_slips_kmax : Cond.code Lib.Math.max.name Lib.Math.max.code 2 (some .int) ∈ wsX11_slips := by decide +kernel

def f_X11_slips (s_found_sheets_count : Int32) (s_found_sheets_youngs : Nat → Int32) (s_found_sheets_olds : Nat → Int32) (s_found_sheets_marshes : Nat → Int32) : Option ((Int32)) :=
  pcl (f_X6_fewestYears s_found_sheets_count s_found_sheets_youngs s_found_sheets_olds) (fun r_1 => (
  pcl (f_X6_mostOfOneMarsh s_found_sheets_count s_found_sheets_marshes) (fun r_3 => (
  some ((if r_1 < r_3 then r_3 else r_1))))))

set_option maxRecDepth 100000 in
set_option maxHeartbeats 4000000 in
theorem ct_X11_slips (l : Launch) (D : va_G) (cA : Nat → ClassId) (a0 : Nat) (q_found : Nat) (q_found_sheets : Nat) (q_found_sheets_youngs : Nat) (q_found_sheets_olds : Nat) (q_found_sheets_marshes : Nat) (q_text : Nat) (q_ocean : Nat) (q_trees : Nat) (q_images : Nat) (q_search : Nat) (q_stories : Nat) (q_signs : Nat) (q_calendar : Nat) (q_draft : Nat) (q_found_books : Nat) (q_found_known : Nat) (q_found_weights : Nat) (s_yearOfNow : Int32) (s_found_dugMarshes : Int32) (s_found_kept : Int32) (s_found_sheets_count : Int32) (s_found_sheets_youngs : Nat → Int32) (s_found_sheets_olds : Nat → Int32) (s_found_sheets_marshes : Nat → Int32) (o_r : Int32) (hf : f_X11_slips s_found_sheets_count s_found_sheets_youngs s_found_sheets_olds s_found_sheets_marshes = some o_r) : CT l yX11_slips wsX11_slips rm_X11_slips D cA [.ref a0] (w_X11_slips a0 q_found q_found_sheets q_found_sheets_youngs q_found_sheets_olds q_found_sheets_marshes q_text q_ocean q_trees q_images q_search q_stories q_signs q_calendar q_draft q_found_books q_found_known q_found_weights cA s_yearOfNow s_found_dugMarshes s_found_kept s_found_sheets_count s_found_sheets_youngs s_found_sheets_olds s_found_sheets_marshes) (w_X11_slips a0 q_found q_found_sheets q_found_sheets_youngs q_found_sheets_olds q_found_sheets_marshes q_text q_ocean q_trees q_images q_search q_stories q_signs q_calendar q_draft q_found_books q_found_known q_found_weights cA s_yearOfNow s_found_dugMarshes s_found_kept s_found_sheets_count s_found_sheets_youngs s_found_sheets_olds s_found_sheets_marshes) (some (.int o_r)) := by
  refine CT.ofW (cc := cX11_slips) (maxL := 1) (ret := (some .int)) (by decide +kernel) rfl (Nat.le_of_ble_eq_true rfl) ?_
  intro p e s m below meth c A C0 hA hP hD ls hl
  have C0 : MX p s m [.ref a0].toArray meth c cX11_slips 1 wsX11_slips RX11 (some .int) D cA := C0
  have hl : lv_has ls 1 [(0, .ref a0)] := hl
  obtain ⟨hx, hb, hml, hown, hts, hr, hlocks, hX⟩ := id C0
  have hK := hX.1
  have hN := hX.2
  have hS : va_S A s.heap s.heap [] := va_S.rf
  unfold f_X11_slips at hf
  refine lv_aload_n hx hb dX11_slips_0 rfl (lv_at hl 0 rfl) ?_
  refine va_get (D := D) (ci := 11) (v := .ref q_found) (C := RX11) (T := TX11) (N := 11) hx hb hts hn_X11_slips_X11 hown hK hP 0 rfl rfl 3 (by decide) (hts _ hw_X11_slips_f33) (fun _ h9 => h9) rfl dX11_slips_1 ?_
  refine va_getN (D := D) (ci := 2) (v := .ref q_found_sheets) (C := RX2) (T := TX2) (N := 6) hx hb hts hn_X11_slips_X2 hown hK hP 1 rfl rfl 1 (by decide) (va_Nw.use rfl (hN _ nw_X11_250)) (fun _ h9 => h9) rfl dX11_slips_4 ?_
  obtain ⟨r_1, hc_2, hf⟩ := pcl_e hf
  refine m_callV (As := []) (rest := []) ⟨hx, hb, hml, hown, hts⟩ hX (ct_X6_fewestYears l D cA q_found_sheets q_found_sheets_youngs q_found_sheets_olds q_found_sheets_marshes s_found_sheets_count s_found_sheets_youngs s_found_sheets_olds r_1 hc_2) (cwV 0 hts gX11_slips_X6_fewestYears rfl rfl rfl (by decide +kernel) ⟨Nat.le_of_ble_eq_true rfl, Nat.le_of_ble_eq_true rfl⟩) hP hD hS hA [2, 3, 4] (by decide) rfl rfl (WS' := (w_X11_slips a0 q_found q_found_sheets q_found_sheets_youngs q_found_sheets_olds q_found_sheets_marshes q_text q_ocean q_trees q_images q_search q_stories q_signs q_calendar q_draft q_found_books q_found_known q_found_weights cA s_yearOfNow s_found_dugMarshes s_found_kept s_found_sheets_count s_found_sheets_youngs s_found_sheets_olds s_found_sheets_marshes)) rfl 2 6 rfl rfl rfl hl.1 rfl (st' := [.int r_1]) rfl (Nat.le_of_ble_eq_true rfl) ⟨Nat.zero_le _, Nat.zero_le _⟩ dX11_slips_7 (fun H locs hP hD hS => ?_)
  refine lv_aload_n hx hb dX11_slips_10 rfl (lv_at hl 0 rfl) ?_
  refine va_get (D := D) (ci := 11) (v := .ref q_found) (C := RX11) (T := TX11) (N := 11) hx hb hts hn_X11_slips_X11 hown hK hP 0 rfl rfl 3 (by decide) (hts _ hw_X11_slips_f33) (fun _ h9 => h9) rfl dX11_slips_11 ?_
  refine va_getN (D := D) (ci := 2) (v := .ref q_found_sheets) (C := RX2) (T := TX2) (N := 6) hx hb hts hn_X11_slips_X2 hown hK hP 1 rfl rfl 1 (by decide) (va_Nw.use rfl (hN _ nw_X11_250)) (fun _ h9 => h9) rfl dX11_slips_14 ?_
  obtain ⟨r_3, hc_4, hf⟩ := pcl_e hf
  refine m_callV (As := []) (rest := [.int r_1]) ⟨hx, hb, hml, hown, hts⟩ hX (ct_X6_mostOfOneMarsh l D cA q_found_sheets q_found_sheets_marshes q_found_sheets_olds q_found_sheets_youngs s_found_sheets_count s_found_sheets_marshes r_3 hc_4) (cwV 0 hts gX11_slips_X6_mostOfOneMarsh rfl rfl rfl (by decide +kernel) ⟨Nat.le_of_ble_eq_true rfl, Nat.le_of_ble_eq_true rfl⟩) hP hD hS hA [2, 5] (by decide) rfl rfl (WS' := (w_X11_slips a0 q_found q_found_sheets q_found_sheets_youngs q_found_sheets_olds q_found_sheets_marshes q_text q_ocean q_trees q_images q_search q_stories q_signs q_calendar q_draft q_found_books q_found_known q_found_weights cA s_yearOfNow s_found_dugMarshes s_found_kept s_found_sheets_count s_found_sheets_youngs s_found_sheets_olds s_found_sheets_marshes)) rfl 2 6 rfl rfl rfl hl.1 rfl (st' := [.int r_3, .int r_1]) rfl (Nat.le_of_ble_eq_true rfl) ⟨Nat.zero_le _, Nat.zero_le _⟩ dX11_slips_17 (fun H locs hP hD hS => ?_)
  refine va_mmax hx hb (hml.trans hl.1.symm) hown (hts _ hw_X11_slips_m274) (hts _ hw_X11_slips_smax) (hts _ hw_X11_slips_imath) (hts _ hw_X11_slips_kmax) (Nat.le_of_ble_eq_true rfl) (Nat.le_of_ble_eq_true rfl) (Nat.zero_le _) (Nat.zero_le _) dX11_slips_20 ?_
  cases hf
  exact m_iret hx hb hr hlocks hP hS dX11_slips_23

/-! ===== OrphanWave.joined(I)I ===== -/
abbrev rm_X11_joined : Room := { frames := 3, cells := 0, slots := 0, locals := 66 }
abbrev w_X11_joined (a0 : Nat) (q_found : Nat) (q_found_sheets : Nat) (q_found_sheets_olds : Nat) (q_found_sheets_youngs : Nat) (q_found_sheets_marshes : Nat) (q_text : Nat) (q_ocean : Nat) (q_trees : Nat) (q_images : Nat) (q_search : Nat) (q_stories : Nat) (q_signs : Nat) (q_calendar : Nat) (q_draft : Nat) (q_found_books : Nat) (q_found_known : Nat) (q_found_weights : Nat) (cA : Nat → ClassId) (s_yearOfNow : Int32) (s_found_dugMarshes : Int32) (s_found_kept : Int32) (s_found_sheets_count : Int32) (s_found_sheets_olds : Nat → Int32) (s_found_sheets_youngs : Nat → Int32) (s_found_sheets_marshes : Nat → Int32) : va_W := [(a0, .inr (11, [.ref q_text, .ref q_ocean, .ref q_trees, .ref q_found, .ref q_images, .ref q_search, .ref q_stories, .ref q_signs, .ref q_calendar, .ref q_draft, .int s_yearOfNow])), (q_found, .inr (2, [.ref q_found_books, .ref q_found_sheets, .ref q_found_known, .ref q_found_weights, .int s_found_dugMarshes, .int s_found_kept])), (q_found_sheets, .inr (6, [.ref q_found_sheets_marshes, .ref q_found_sheets_olds, .ref q_found_sheets_youngs, .int s_found_sheets_count])), (q_found_sheets_olds, .inl (cA 1, 12, .inl s_found_sheets_olds)), (q_found_sheets_youngs, .inl (cA 1, 12, .inl s_found_sheets_youngs)), (q_found_sheets_marshes, .inl (cA 1, 12, .inl s_found_sheets_marshes))]
theorem hn_X11_joined_X11 : ∀ w ∈ u_ws RX11 TX11 11, w ∈ wsX11_joined := by decide +kernel
theorem hn_X11_joined_X2 : ∀ w ∈ u_ws RX2 TX2 6, w ∈ wsX11_joined := by decide +kernel
theorem hw_X11_joined_f33 : Cond.fieldLink RX11 33 "OrphanWave" "found" "LOrphanWave$Findings;" ∈ wsX11_joined := by decide +kernel

def f_X11_joined (x1 : Int32) (s_found_sheets_count : Int32) (s_found_sheets_olds : Nat → Int32) (s_found_sheets_youngs : Nat → Int32) (s_found_sheets_marshes : Nat → Int32) : Option ((Int32)) :=
  pcl (f_X11_isYear x1) (fun r_1 => (
  pbr (r_1 = 0)
    (some ((-1 : Int32)))
    (pcl (f_X6_marshesAt x1 s_found_sheets_count s_found_sheets_olds s_found_sheets_youngs s_found_sheets_marshes) (fun r_4 => (
    some (r_4))))))

set_option maxRecDepth 100000 in
set_option maxHeartbeats 4000000 in
theorem ct_X11_joined (l : Launch) (D : va_G) (cA : Nat → ClassId) (x1 : Int32) (a0 : Nat) (q_found : Nat) (q_found_sheets : Nat) (q_found_sheets_olds : Nat) (q_found_sheets_youngs : Nat) (q_found_sheets_marshes : Nat) (q_text : Nat) (q_ocean : Nat) (q_trees : Nat) (q_images : Nat) (q_search : Nat) (q_stories : Nat) (q_signs : Nat) (q_calendar : Nat) (q_draft : Nat) (q_found_books : Nat) (q_found_known : Nat) (q_found_weights : Nat) (s_yearOfNow : Int32) (s_found_dugMarshes : Int32) (s_found_kept : Int32) (s_found_sheets_count : Int32) (s_found_sheets_olds : Nat → Int32) (s_found_sheets_youngs : Nat → Int32) (s_found_sheets_marshes : Nat → Int32) (o_r : Int32) (hf : f_X11_joined x1 s_found_sheets_count s_found_sheets_olds s_found_sheets_youngs s_found_sheets_marshes = some o_r) : CT l yX11_joined wsX11_joined rm_X11_joined D cA [.ref a0, .int x1] (w_X11_joined a0 q_found q_found_sheets q_found_sheets_olds q_found_sheets_youngs q_found_sheets_marshes q_text q_ocean q_trees q_images q_search q_stories q_signs q_calendar q_draft q_found_books q_found_known q_found_weights cA s_yearOfNow s_found_dugMarshes s_found_kept s_found_sheets_count s_found_sheets_olds s_found_sheets_youngs s_found_sheets_marshes) (w_X11_joined a0 q_found q_found_sheets q_found_sheets_olds q_found_sheets_youngs q_found_sheets_marshes q_text q_ocean q_trees q_images q_search q_stories q_signs q_calendar q_draft q_found_books q_found_known q_found_weights cA s_yearOfNow s_found_dugMarshes s_found_kept s_found_sheets_count s_found_sheets_olds s_found_sheets_youngs s_found_sheets_marshes) (some (.int o_r)) := by
  refine CT.ofW (cc := cX11_joined) (maxL := 2) (ret := (some .int)) (by decide +kernel) rfl (Nat.le_of_ble_eq_true rfl) ?_
  intro p e s m below meth c A C0 hA hP hD ls hl
  have C0 : MX p s m [.ref a0, .int x1].toArray meth c cX11_joined 2 wsX11_joined RX11 (some .int) D cA := C0
  have hl : lv_has ls 2 [(0, .ref a0), (1, .int x1)] := hl
  obtain ⟨hx, hb, hml, hown, hts, hr, hlocks, hX⟩ := id C0
  have hK := hX.1
  have hN := hX.2
  have hS : va_S A s.heap s.heap [] := va_S.rf
  unfold f_X11_joined at hf
  refine lv_iload_n hx hb dX11_joined_0 rfl (lv_at hl 1 rfl) ?_
  obtain ⟨r_1, hc_2, hf⟩ := pcl_e hf
  refine m_callS (As := [.int x1]) (rest := []) ⟨hx, hb, hml, hown, hts⟩ hX (ct_X11_isYear l D cA x1 r_1 hc_2) (va_cwS 1 hts gX11_joined_X11_isYear rfl rfl rfl (by decide +kernel) ⟨Nat.le_of_ble_eq_true rfl, Nat.le_of_ble_eq_true rfl⟩) hP hD hS hA [] (by decide) rfl rfl (WS' := (w_X11_joined a0 q_found q_found_sheets q_found_sheets_olds q_found_sheets_youngs q_found_sheets_marshes q_text q_ocean q_trees q_images q_search q_stories q_signs q_calendar q_draft q_found_books q_found_known q_found_weights cA s_yearOfNow s_found_dugMarshes s_found_kept s_found_sheets_count s_found_sheets_olds s_found_sheets_youngs s_found_sheets_marshes)) rfl rfl hl.1 rfl (st' := [.int r_1]) rfl (Nat.le_of_ble_eq_true rfl) ⟨Nat.zero_le _, Nat.zero_le _⟩ dX11_joined_1 (fun H locs hP hD hS => ?_)
  refine lv_if_eq (tgt := 21) hx hb dX11_joined_4 (by decide) (fun c_3 => ?_) (fun c_3 => ?_)
  · have hf := pbr_t c_3 hf
    refine lv_iconst (v := (-1 : Int32)) hx hb dX11_joined_21 (by decide) ?_
    cases hf
    exact m_iret hx hb hr hlocks hP hS dX11_joined_22
  have hf := pbr_f c_3 hf
  refine lv_aload_n hx hb dX11_joined_7 rfl (lv_at hl 0 rfl) ?_
  refine va_get (D := D) (ci := 11) (v := .ref q_found) (C := RX11) (T := TX11) (N := 11) hx hb hts hn_X11_joined_X11 hown hK hP 0 rfl rfl 3 (by decide) (hts _ hw_X11_joined_f33) (fun _ h9 => h9) rfl dX11_joined_8 ?_
  refine va_getN (D := D) (ci := 2) (v := .ref q_found_sheets) (C := RX2) (T := TX2) (N := 6) hx hb hts hn_X11_joined_X2 hown hK hP 1 rfl rfl 1 (by decide) (va_Nw.use rfl (hN _ nw_X11_250)) (fun _ h9 => h9) rfl dX11_joined_11 ?_
  refine lv_iload_n hx hb dX11_joined_14 rfl (lv_at hl 1 rfl) ?_
  obtain ⟨r_4, hc_5, hf⟩ := pcl_e hf
  refine m_callV (As := [.int x1]) (rest := []) ⟨hx, hb, hml, hown, hts⟩ hX (ct_X6_marshesAt l D cA x1 q_found_sheets q_found_sheets_olds q_found_sheets_youngs q_found_sheets_marshes s_found_sheets_count s_found_sheets_olds s_found_sheets_youngs s_found_sheets_marshes r_4 hc_5) (cwV 1 hts gX11_joined_X6_marshesAt rfl rfl rfl (by decide +kernel) ⟨Nat.le_of_ble_eq_true rfl, Nat.le_of_ble_eq_true rfl⟩) hP hD hS hA [2, 3, 4, 5] (by decide) rfl rfl (WS' := (w_X11_joined a0 q_found q_found_sheets q_found_sheets_olds q_found_sheets_youngs q_found_sheets_marshes q_text q_ocean q_trees q_images q_search q_stories q_signs q_calendar q_draft q_found_books q_found_known q_found_weights cA s_yearOfNow s_found_dugMarshes s_found_kept s_found_sheets_count s_found_sheets_olds s_found_sheets_youngs s_found_sheets_marshes)) rfl 2 6 rfl rfl rfl hl.1 rfl (st' := [.int r_4]) rfl (Nat.le_of_ble_eq_true rfl) ⟨Nat.zero_le _, Nat.zero_le _⟩ dX11_joined_15 (fun H locs hP hD hS => ?_)
  refine lv_goto (tgt := 22) hx hb dX11_joined_18 (by decide) ?_
  cases hf
  exact m_iret hx hb hr hlocks hP hS dX11_joined_22

/-! ===== OrphanWave.whole(I)I ===== -/
abbrev rm_X11_whole : Room := { frames := 4, cells := 0, slots := 0, locals := 90 }
abbrev w_X11_whole (a0 : Nat) (q_found : Nat) (q_found_sheets : Nat) (q_found_sheets_olds : Nat) (q_found_sheets_youngs : Nat) (q_found_sheets_marshes : Nat) (q_text : Nat) (q_ocean : Nat) (q_trees : Nat) (q_images : Nat) (q_search : Nat) (q_stories : Nat) (q_signs : Nat) (q_calendar : Nat) (q_draft : Nat) (q_found_books : Nat) (q_found_known : Nat) (q_found_weights : Nat) (cA : Nat → ClassId) (s_yearOfNow : Int32) (s_found_dugMarshes : Int32) (s_found_kept : Int32) (s_found_sheets_count : Int32) (s_found_sheets_olds : Nat → Int32) (s_found_sheets_youngs : Nat → Int32) (s_found_sheets_marshes : Nat → Int32) : va_W := [(a0, .inr (11, [.ref q_text, .ref q_ocean, .ref q_trees, .ref q_found, .ref q_images, .ref q_search, .ref q_stories, .ref q_signs, .ref q_calendar, .ref q_draft, .int s_yearOfNow])), (q_found, .inr (2, [.ref q_found_books, .ref q_found_sheets, .ref q_found_known, .ref q_found_weights, .int s_found_dugMarshes, .int s_found_kept])), (q_found_sheets, .inr (6, [.ref q_found_sheets_marshes, .ref q_found_sheets_olds, .ref q_found_sheets_youngs, .int s_found_sheets_count])), (q_found_sheets_olds, .inl (cA 1, 12, .inl s_found_sheets_olds)), (q_found_sheets_youngs, .inl (cA 1, 12, .inl s_found_sheets_youngs)), (q_found_sheets_marshes, .inl (cA 1, 12, .inl s_found_sheets_marshes))]
theorem hn_X11_whole_X11 : ∀ w ∈ u_ws RX11 TX11 11, w ∈ wsX11_whole := by decide +kernel
theorem hn_X11_whole_X2 : ∀ w ∈ u_ws RX2 TX2 6, w ∈ wsX11_whole := by decide +kernel
theorem hw_X11_whole_f33 : Cond.fieldLink RX11 33 "OrphanWave" "found" "LOrphanWave$Findings;" ∈ wsX11_whole := by decide +kernel

def f_X11_whole (x1 : Int32) (s_found_sheets_count : Int32) (s_found_sheets_olds : Nat → Int32) (s_found_sheets_youngs : Nat → Int32) (s_found_sheets_marshes : Nat → Int32) : Option ((Int32)) :=
  pcl (f_X11_isBit x1) (fun r_1 => (
  pbr (r_1 = 0)
    (some ((-1 : Int32)))
    (pcl (f_X6_widestYear s_found_sheets_count s_found_sheets_olds s_found_sheets_youngs s_found_sheets_marshes) (fun r_4 => (
    pbr (r_4 = (-9 : Int32))
      (some (r_4))
      (pbr (x1 = 0)
        (some (r_4))
        (pcl (f_X6_marshesAt r_4 s_found_sheets_count s_found_sheets_olds s_found_sheets_youngs s_found_sheets_marshes) (fun r_8 => (
        pcl (f_J6_bitCount_0f7a4 r_8) (fun r_10 => (
        some (r_10))))))))))))

set_option maxRecDepth 100000 in
set_option maxHeartbeats 4000000 in
theorem ct_X11_whole (l : Launch) (D : va_G) (cA : Nat → ClassId) (x1 : Int32) (a0 : Nat) (q_found : Nat) (q_found_sheets : Nat) (q_found_sheets_olds : Nat) (q_found_sheets_youngs : Nat) (q_found_sheets_marshes : Nat) (q_text : Nat) (q_ocean : Nat) (q_trees : Nat) (q_images : Nat) (q_search : Nat) (q_stories : Nat) (q_signs : Nat) (q_calendar : Nat) (q_draft : Nat) (q_found_books : Nat) (q_found_known : Nat) (q_found_weights : Nat) (s_yearOfNow : Int32) (s_found_dugMarshes : Int32) (s_found_kept : Int32) (s_found_sheets_count : Int32) (s_found_sheets_olds : Nat → Int32) (s_found_sheets_youngs : Nat → Int32) (s_found_sheets_marshes : Nat → Int32) (o_r : Int32) (hf : f_X11_whole x1 s_found_sheets_count s_found_sheets_olds s_found_sheets_youngs s_found_sheets_marshes = some o_r) : CT l yX11_whole wsX11_whole rm_X11_whole D cA [.ref a0, .int x1] (w_X11_whole a0 q_found q_found_sheets q_found_sheets_olds q_found_sheets_youngs q_found_sheets_marshes q_text q_ocean q_trees q_images q_search q_stories q_signs q_calendar q_draft q_found_books q_found_known q_found_weights cA s_yearOfNow s_found_dugMarshes s_found_kept s_found_sheets_count s_found_sheets_olds s_found_sheets_youngs s_found_sheets_marshes) (w_X11_whole a0 q_found q_found_sheets q_found_sheets_olds q_found_sheets_youngs q_found_sheets_marshes q_text q_ocean q_trees q_images q_search q_stories q_signs q_calendar q_draft q_found_books q_found_known q_found_weights cA s_yearOfNow s_found_dugMarshes s_found_kept s_found_sheets_count s_found_sheets_olds s_found_sheets_youngs s_found_sheets_marshes) (some (.int o_r)) := by
  refine CT.ofW (cc := cX11_whole) (maxL := 3) (ret := (some .int)) (by decide +kernel) rfl (Nat.le_of_ble_eq_true rfl) ?_
  intro p e s m below meth c A C0 hA hP hD ls hl
  have C0 : MX p s m [.ref a0, .int x1].toArray meth c cX11_whole 3 wsX11_whole RX11 (some .int) D cA := C0
  have hl : lv_has ls 3 [(0, .ref a0), (1, .int x1)] := hl
  obtain ⟨hx, hb, hml, hown, hts, hr, hlocks, hX⟩ := id C0
  have hK := hX.1
  have hN := hX.2
  have hS : va_S A s.heap s.heap [] := va_S.rf
  unfold f_X11_whole at hf
  refine lv_iload_n hx hb dX11_whole_0 rfl (lv_at hl 1 rfl) ?_
  obtain ⟨r_1, hc_2, hf⟩ := pcl_e hf
  refine m_callS (As := [.int x1]) (rest := []) ⟨hx, hb, hml, hown, hts⟩ hX (ct_X11_isBit l D cA x1 r_1 hc_2) (va_cwS 1 hts gX11_whole_X11_isBit rfl rfl rfl (by decide +kernel) ⟨Nat.le_of_ble_eq_true rfl, Nat.le_of_ble_eq_true rfl⟩) hP hD hS hA [] (by decide) rfl rfl (WS' := (w_X11_whole a0 q_found q_found_sheets q_found_sheets_olds q_found_sheets_youngs q_found_sheets_marshes q_text q_ocean q_trees q_images q_search q_stories q_signs q_calendar q_draft q_found_books q_found_known q_found_weights cA s_yearOfNow s_found_dugMarshes s_found_kept s_found_sheets_count s_found_sheets_olds s_found_sheets_youngs s_found_sheets_marshes)) rfl rfl hl.1 rfl (st' := [.int r_1]) rfl (Nat.le_of_ble_eq_true rfl) ⟨Nat.zero_le _, Nat.zero_le _⟩ dX11_whole_1 (fun H locs hP hD hS => ?_)
  refine lv_if_ne (tgt := 9) hx hb dX11_whole_4 (by decide) (fun c_3 => ?_) (fun c_3 => ?_)
  · have hf := pbr_f c_3 hf
    refine lv_aload_n hx hb dX11_whole_9 rfl (lv_at hl 0 rfl) ?_
    refine va_get (D := D) (ci := 11) (v := .ref q_found) (C := RX11) (T := TX11) (N := 11) hx hb hts hn_X11_whole_X11 hown hK hP 0 rfl rfl 3 (by decide) (hts _ hw_X11_whole_f33) (fun _ h9 => h9) rfl dX11_whole_10 ?_
    refine va_getN (D := D) (ci := 2) (v := .ref q_found_sheets) (C := RX2) (T := TX2) (N := 6) hx hb hts hn_X11_whole_X2 hown hK hP 1 rfl rfl 1 (by decide) (va_Nw.use rfl (hN _ nw_X11_250)) (fun _ h9 => h9) rfl dX11_whole_13 ?_
    obtain ⟨r_4, hc_5, hf⟩ := pcl_e hf
    refine m_callV (As := []) (rest := []) ⟨hx, hb, hml, hown, hts⟩ hX (ct_X6_widestYear l D cA q_found_sheets q_found_sheets_olds q_found_sheets_youngs q_found_sheets_marshes s_found_sheets_count s_found_sheets_olds s_found_sheets_youngs s_found_sheets_marshes r_4 hc_5) (cwV 0 hts gX11_whole_X6_widestYear rfl rfl rfl (by decide +kernel) ⟨Nat.le_of_ble_eq_true rfl, Nat.le_of_ble_eq_true rfl⟩) hP hD hS hA [2, 3, 4, 5] (by decide) rfl rfl (WS' := (w_X11_whole a0 q_found q_found_sheets q_found_sheets_olds q_found_sheets_youngs q_found_sheets_marshes q_text q_ocean q_trees q_images q_search q_stories q_signs q_calendar q_draft q_found_books q_found_known q_found_weights cA s_yearOfNow s_found_dugMarshes s_found_kept s_found_sheets_count s_found_sheets_olds s_found_sheets_youngs s_found_sheets_marshes)) rfl 2 6 rfl rfl rfl hl.1 rfl (st' := [.int r_4]) rfl (Nat.le_of_ble_eq_true rfl) ⟨Nat.zero_le _, Nat.zero_le _⟩ dX11_whole_16 (fun H locs hP hD hS => ?_)
    refine lv_istore_n (lv' := [(2, .int r_4), (0, .ref a0), (1, .int x1)]) hx hb dX11_whole_19 rfl hl (by decide) rfl (fun ls hl => ?_)
    refine lv_iload_n hx hb dX11_whole_20 rfl (lv_at hl 0 rfl) ?_
    refine lv_bipush (v := (-9 : Int32)) hx hb dX11_whole_21 (by decide) ?_
    refine lv_icmp_eq (tgt := 30) hx hb dX11_whole_23 (by decide) (fun c_6 => ?_) (fun c_6 => ?_)
    · have hf := pbr_t c_6 hf
      refine lv_iload_n hx hb dX11_whole_30 rfl (lv_at hl 0 rfl) ?_
      cases hf
      exact m_iret hx hb hr hlocks hP hS dX11_whole_31
    have hf := pbr_f c_6 hf
    refine lv_iload_n hx hb dX11_whole_26 rfl (lv_at hl 2 rfl) ?_
    refine lv_if_ne (tgt := 32) hx hb dX11_whole_27 (by decide) (fun c_7 => ?_) (fun c_7 => ?_)
    · have hf := pbr_f c_7 hf
      refine lv_aload_n hx hb dX11_whole_32 rfl (lv_at hl 1 rfl) ?_
      refine va_get (D := D) (ci := 11) (v := .ref q_found) (C := RX11) (T := TX11) (N := 11) hx hb hts hn_X11_whole_X11 hown hK hP 0 rfl rfl 3 (by decide) (hts _ hw_X11_whole_f33) (fun _ h9 => h9) rfl dX11_whole_33 ?_
      refine va_getN (D := D) (ci := 2) (v := .ref q_found_sheets) (C := RX2) (T := TX2) (N := 6) hx hb hts hn_X11_whole_X2 hown hK hP 1 rfl rfl 1 (by decide) (va_Nw.use rfl (hN _ nw_X11_250)) (fun _ h9 => h9) rfl dX11_whole_36 ?_
      refine lv_iload_n hx hb dX11_whole_39 rfl (lv_at hl 0 rfl) ?_
      obtain ⟨r_8, hc_9, hf⟩ := pcl_e hf
      refine m_callV (As := [.int r_4]) (rest := []) ⟨hx, hb, hml, hown, hts⟩ hX (ct_X6_marshesAt l D cA r_4 q_found_sheets q_found_sheets_olds q_found_sheets_youngs q_found_sheets_marshes s_found_sheets_count s_found_sheets_olds s_found_sheets_youngs s_found_sheets_marshes r_8 hc_9) (cwV 1 hts gX11_whole_X6_marshesAt rfl rfl rfl (by decide +kernel) ⟨Nat.le_of_ble_eq_true rfl, Nat.le_of_ble_eq_true rfl⟩) hP hD hS hA [2, 3, 4, 5] (by decide) rfl rfl (WS' := (w_X11_whole a0 q_found q_found_sheets q_found_sheets_olds q_found_sheets_youngs q_found_sheets_marshes q_text q_ocean q_trees q_images q_search q_stories q_signs q_calendar q_draft q_found_books q_found_known q_found_weights cA s_yearOfNow s_found_dugMarshes s_found_kept s_found_sheets_count s_found_sheets_olds s_found_sheets_youngs s_found_sheets_marshes)) rfl 2 6 rfl rfl rfl hl.1 rfl (st' := [.int r_8]) rfl (Nat.le_of_ble_eq_true rfl) ⟨Nat.zero_le _, Nat.zero_le _⟩ dX11_whole_40 (fun H locs hP hD hS => ?_)
      obtain ⟨r_10, hc_11, hf⟩ := pcl_e hf
      refine m_callS (As := [.int r_8]) (rest := []) ⟨hx, hb, hml, hown, hts⟩ hX (ct_J6_bitCount_0f7a4 l D cA r_8 r_10 hc_11) (va_cwS 1 hts gX11_whole_J6_bitCount_0f7a4 rfl rfl rfl (by decide +kernel) ⟨Nat.le_of_ble_eq_true rfl, Nat.le_of_ble_eq_true rfl⟩) hP hD hS hA [] (by decide) rfl rfl (WS' := (w_X11_whole a0 q_found q_found_sheets q_found_sheets_olds q_found_sheets_youngs q_found_sheets_marshes q_text q_ocean q_trees q_images q_search q_stories q_signs q_calendar q_draft q_found_books q_found_known q_found_weights cA s_yearOfNow s_found_dugMarshes s_found_kept s_found_sheets_count s_found_sheets_olds s_found_sheets_youngs s_found_sheets_marshes)) rfl rfl hl.1 rfl (st' := [.int r_10]) rfl (Nat.le_of_ble_eq_true rfl) ⟨Nat.zero_le _, Nat.zero_le _⟩ dX11_whole_43 (fun H locs hP hD hS => ?_)
      cases hf
      exact m_iret hx hb hr hlocks hP hS dX11_whole_46
    have hf := pbr_t c_7 hf
    refine lv_iload_n hx hb dX11_whole_30 rfl (lv_at hl 0 rfl) ?_
    cases hf
    exact m_iret hx hb hr hlocks hP hS dX11_whole_31
  have hf := pbr_t c_3 hf
  refine lv_iconst (v := (-1 : Int32)) hx hb dX11_whole_7 (by decide) ?_
  cases hf
  exact m_iret hx hb hr hlocks hP hS dX11_whole_8

/-! ===== OrphanWave.tale(IIIII)I ===== -/
abbrev rm_X11_tale : Room := { frames := 2, cells := 0, slots := 0, locals := 42 }
abbrev w_X11_tale (a0 : Nat) (q_text : Nat) (q_ocean : Nat) (q_trees : Nat) (q_found : Nat) (q_images : Nat) (q_search : Nat) (q_stories : Nat) (q_signs : Nat) (q_calendar : Nat) (q_draft : Nat) (cA : Nat → ClassId) (s_yearOfNow : Int32) : va_W := [(a0, .inr (11, [.ref q_text, .ref q_ocean, .ref q_trees, .ref q_found, .ref q_images, .ref q_search, .ref q_stories, .ref q_signs, .ref q_calendar, .ref q_draft, .int s_yearOfNow]))]
theorem hw_X11_tale_c163 : Cond.constant RX11 163 (-1000000) ∈ wsX11_tale := by decide +kernel

def f_X11_tale (x1 : Int32) (x2 : Int32) (x3 : Int32) (x4 : Int32) (x5 : Int32) : Option ((Int32)) :=
  pcl (f_X11_isYear x1) (fun r_1 => (
  pbr (r_1 = 0)
    (some ((-1000000 : Int32)))
    (pcl (f_X11_within x2 (0 : Int32) (50 : Int32)) (fun r_4 => (
    pbr (r_4 = 0)
      (some ((-1000000 : Int32)))
      (pcl (f_X11_isBit x5) (fun r_7 => (
      pbr (r_7 = 0)
        (some ((-1000000 : Int32)))
        (pcl (f_X11_isSpan x3 x4 (1 : Int32) (99 : Int32)) (fun r_10 => (
        pbr (r_10 = 0)
          (some ((-1000000 : Int32)))
          (pbr (x5 = 0)
            (some ((x1 - (x2 * x4))))
            (some ((x1 - (x2 * x3))))))))))))))))

set_option maxRecDepth 100000 in
set_option maxHeartbeats 4000000 in
theorem ct_X11_tale (l : Launch) (D : va_G) (cA : Nat → ClassId) (x1 : Int32) (x2 : Int32) (x3 : Int32) (x4 : Int32) (x5 : Int32) (a0 : Nat) (q_text : Nat) (q_ocean : Nat) (q_trees : Nat) (q_found : Nat) (q_images : Nat) (q_search : Nat) (q_stories : Nat) (q_signs : Nat) (q_calendar : Nat) (q_draft : Nat) (s_yearOfNow : Int32) (o_r : Int32) (hf : f_X11_tale x1 x2 x3 x4 x5 = some o_r) : CT l yX11_tale wsX11_tale rm_X11_tale D cA [.ref a0, .int x1, .int x2, .int x3, .int x4, .int x5] (w_X11_tale a0 q_text q_ocean q_trees q_found q_images q_search q_stories q_signs q_calendar q_draft cA s_yearOfNow) (w_X11_tale a0 q_text q_ocean q_trees q_found q_images q_search q_stories q_signs q_calendar q_draft cA s_yearOfNow) (some (.int o_r)) := by
  refine CT.ofW (cc := cX11_tale) (maxL := 6) (ret := (some .int)) (by decide +kernel) rfl (Nat.le_of_ble_eq_true rfl) ?_
  intro p e s m below meth c A C0 hA hP hD ls hl
  have C0 : MX p s m [.ref a0, .int x1, .int x2, .int x3, .int x4, .int x5].toArray meth c cX11_tale 6 wsX11_tale RX11 (some .int) D cA := C0
  have hl : lv_has ls 6 [(0, .ref a0), (1, .int x1), (2, .int x2), (3, .int x3), (4, .int x4), (5, .int x5)] := hl
  obtain ⟨hx, hb, hml, hown, hts, hr, hlocks, hX⟩ := id C0
  have hK := hX.1
  have hN := hX.2
  have hS : va_S A s.heap s.heap [] := va_S.rf
  unfold f_X11_tale at hf
  refine lv_iload_n hx hb dX11_tale_0 rfl (lv_at hl 1 rfl) ?_
  obtain ⟨r_1, hc_2, hf⟩ := pcl_e hf
  refine m_callS (As := [.int x1]) (rest := []) ⟨hx, hb, hml, hown, hts⟩ hX (ct_X11_isYear l D cA x1 r_1 hc_2) (va_cwS 1 hts gX11_tale_X11_isYear rfl rfl rfl (by decide +kernel) ⟨Nat.le_of_ble_eq_true rfl, Nat.le_of_ble_eq_true rfl⟩) hP hD hS hA [] (by decide) rfl rfl (WS' := (w_X11_tale a0 q_text q_ocean q_trees q_found q_images q_search q_stories q_signs q_calendar q_draft cA s_yearOfNow)) rfl rfl hl.1 rfl (st' := [.int r_1]) rfl (Nat.le_of_ble_eq_true rfl) ⟨Nat.zero_le _, Nat.zero_le _⟩ dX11_tale_1 (fun H locs hP hD hS => ?_)
  refine lv_if_eq (tgt := 25) hx hb dX11_tale_4 (by decide) (fun c_3 => ?_) (fun c_3 => ?_)
  · have hf := pbr_t c_3 hf
    refine lv_ldc (v := (-1000000 : Int32)) hx hb hown (hts _ hw_X11_tale_c163) dX11_tale_25 ?_
    cases hf
    exact m_iret hx hb hr hlocks hP hS dX11_tale_27
  have hf := pbr_f c_3 hf
  refine lv_iload_n hx hb dX11_tale_7 rfl (lv_at hl 2 rfl) ?_
  refine lv_iconst (v := (0 : Int32)) hx hb dX11_tale_8 (by decide) ?_
  refine lv_bipush (v := (50 : Int32)) hx hb dX11_tale_9 (by decide) ?_
  obtain ⟨r_4, hc_5, hf⟩ := pcl_e hf
  refine m_callS (As := [.int x2, .int (0 : Int32), .int (50 : Int32)]) (rest := []) ⟨hx, hb, hml, hown, hts⟩ hX (ct_X11_within l D cA x2 (0 : Int32) (50 : Int32) r_4 hc_5) (va_cwS 3 hts gX11_tale_X11_within rfl rfl rfl (by decide +kernel) ⟨Nat.le_of_ble_eq_true rfl, Nat.le_of_ble_eq_true rfl⟩) hP hD hS hA [] (by decide) rfl rfl (WS' := (w_X11_tale a0 q_text q_ocean q_trees q_found q_images q_search q_stories q_signs q_calendar q_draft cA s_yearOfNow)) rfl rfl hl.1 rfl (st' := [.int r_4]) rfl (Nat.le_of_ble_eq_true rfl) ⟨Nat.zero_le _, Nat.zero_le _⟩ dX11_tale_11 (fun H locs hP hD hS => ?_)
  refine lv_if_eq (tgt := 25) hx hb dX11_tale_14 (by decide) (fun c_6 => ?_) (fun c_6 => ?_)
  · have hf := pbr_t c_6 hf
    refine lv_ldc (v := (-1000000 : Int32)) hx hb hown (hts _ hw_X11_tale_c163) dX11_tale_25 ?_
    cases hf
    exact m_iret hx hb hr hlocks hP hS dX11_tale_27
  have hf := pbr_f c_6 hf
  refine lv_iload hx hb dX11_tale_17 (lv_at hl 5 rfl) ?_
  obtain ⟨r_7, hc_8, hf⟩ := pcl_e hf
  refine m_callS (As := [.int x5]) (rest := []) ⟨hx, hb, hml, hown, hts⟩ hX (ct_X11_isBit l D cA x5 r_7 hc_8) (va_cwS 1 hts gX11_tale_X11_isBit rfl rfl rfl (by decide +kernel) ⟨Nat.le_of_ble_eq_true rfl, Nat.le_of_ble_eq_true rfl⟩) hP hD hS hA [] (by decide) rfl rfl (WS' := (w_X11_tale a0 q_text q_ocean q_trees q_found q_images q_search q_stories q_signs q_calendar q_draft cA s_yearOfNow)) rfl rfl hl.1 rfl (st' := [.int r_7]) rfl (Nat.le_of_ble_eq_true rfl) ⟨Nat.zero_le _, Nat.zero_le _⟩ dX11_tale_19 (fun H locs hP hD hS => ?_)
  refine lv_if_ne (tgt := 28) hx hb dX11_tale_22 (by decide) (fun c_9 => ?_) (fun c_9 => ?_)
  · have hf := pbr_f c_9 hf
    refine lv_iload_n hx hb dX11_tale_28 rfl (lv_at hl 3 rfl) ?_
    refine lv_iload hx hb dX11_tale_29 (lv_at hl 4 rfl) ?_
    refine lv_iconst (v := (1 : Int32)) hx hb dX11_tale_31 (by decide) ?_
    refine lv_bipush (v := (99 : Int32)) hx hb dX11_tale_32 (by decide) ?_
    obtain ⟨r_10, hc_11, hf⟩ := pcl_e hf
    refine m_callS (As := [.int x3, .int x4, .int (1 : Int32), .int (99 : Int32)]) (rest := []) ⟨hx, hb, hml, hown, hts⟩ hX (ct_X11_isSpan l D cA x3 x4 (1 : Int32) (99 : Int32) r_10 hc_11) (va_cwS 4 hts gX11_tale_X11_isSpan rfl rfl rfl (by decide +kernel) ⟨Nat.le_of_ble_eq_true rfl, Nat.le_of_ble_eq_true rfl⟩) hP hD hS hA [] (by decide) rfl rfl (WS' := (w_X11_tale a0 q_text q_ocean q_trees q_found q_images q_search q_stories q_signs q_calendar q_draft cA s_yearOfNow)) rfl rfl hl.1 rfl (st' := [.int r_10]) rfl (Nat.le_of_ble_eq_true rfl) ⟨Nat.zero_le _, Nat.zero_le _⟩ dX11_tale_34 (fun H locs hP hD hS => ?_)
    refine lv_if_ne (tgt := 43) hx hb dX11_tale_37 (by decide) (fun c_12 => ?_) (fun c_12 => ?_)
    · have hf := pbr_f c_12 hf
      refine lv_iload_n hx hb dX11_tale_43 rfl (lv_at hl 1 rfl) ?_
      refine lv_iload_n hx hb dX11_tale_44 rfl (lv_at hl 2 rfl) ?_
      refine lv_iload hx hb dX11_tale_45 (lv_at hl 5 rfl) ?_
      refine lv_if_ne (tgt := 55) hx hb dX11_tale_47 (by decide) (fun c_13 => ?_) (fun c_13 => ?_)
      · have hf := pbr_f c_13 hf
        refine lv_iload_n hx hb dX11_tale_55 rfl (lv_at hl 3 rfl) ?_
        refine lv_imul hx hb dX11_tale_56 ?_
        refine lv_isub hx hb dX11_tale_57 ?_
        cases hf
        exact m_iret hx hb hr hlocks hP hS dX11_tale_58
      have hf := pbr_t c_13 hf
      refine lv_iload hx hb dX11_tale_50 (lv_at hl 4 rfl) ?_
      refine lv_goto (tgt := 56) hx hb dX11_tale_52 (by decide) ?_
      refine lv_imul hx hb dX11_tale_56 ?_
      refine lv_isub hx hb dX11_tale_57 ?_
      cases hf
      exact m_iret hx hb hr hlocks hP hS dX11_tale_58
    have hf := pbr_t c_12 hf
    refine lv_ldc (v := (-1000000 : Int32)) hx hb hown (hts _ hw_X11_tale_c163) dX11_tale_40 ?_
    cases hf
    exact m_iret hx hb hr hlocks hP hS dX11_tale_42
  have hf := pbr_t c_9 hf
  refine lv_ldc (v := (-1000000 : Int32)) hx hb hown (hts _ hw_X11_tale_c163) dX11_tale_25 ?_
  cases hf
  exact m_iret hx hb hr hlocks hP hS dX11_tale_27

/-! ===== OrphanWave.known(I)I ===== -/
abbrev rm_X11_known : Room := { frames := 2, cells := 0, slots := 0, locals := 42 }
abbrev w_X11_known (a0 : Nat) (q_found : Nat) (q_found_known : Nat) (q_found_known_years : Nat) (q_text : Nat) (q_ocean : Nat) (q_trees : Nat) (q_images : Nat) (q_search : Nat) (q_stories : Nat) (q_signs : Nat) (q_calendar : Nat) (q_draft : Nat) (q_found_books : Nat) (q_found_sheets : Nat) (q_found_weights : Nat) (cA : Nat → ClassId) (s_yearOfNow : Int32) (s_found_dugMarshes : Int32) (s_found_kept : Int32) (s_found_known_count : Int32) (s_found_known_years : Nat → Int32) : va_W := [(a0, .inr (11, [.ref q_text, .ref q_ocean, .ref q_trees, .ref q_found, .ref q_images, .ref q_search, .ref q_stories, .ref q_signs, .ref q_calendar, .ref q_draft, .int s_yearOfNow])), (q_found, .inr (2, [.ref q_found_books, .ref q_found_sheets, .ref q_found_known, .ref q_found_weights, .int s_found_dugMarshes, .int s_found_kept])), (q_found_known, .inr (3, [.ref q_found_known_years, .int s_found_known_count])), (q_found_known_years, .inl (cA 1, 16, .inl s_found_known_years))]
theorem hn_X11_known_X11 : ∀ w ∈ u_ws RX11 TX11 11, w ∈ wsX11_known := by decide +kernel
theorem hn_X11_known_X2 : ∀ w ∈ u_ws RX2 TX2 6, w ∈ wsX11_known := by decide +kernel
theorem hn_X11_known_X3 : ∀ w ∈ u_ws RX3 TX3 2, w ∈ wsX11_known := by decide +kernel
theorem hw_X11_known_f33 : Cond.fieldLink RX11 33 "OrphanWave" "found" "LOrphanWave$Findings;" ∈ wsX11_known := by decide +kernel

def f_X11_known (x1 : Int32) (s_found_known_count : Int32) (s_found_known_years : Nat → Int32) : Option ((Int32) × (Int32) × (Nat → Int32)) :=
  pcl (f_X11_isYear x1) (fun r_1 => (
  pbr (r_1 = 0)
    (some ((-1 : Int32), s_found_known_count, s_found_known_years))
    (pcl (f_X3_isLater x1 s_found_known_count s_found_known_years) (fun r_4 => (
    pbr (r_4 = 0)
      (some ((-1 : Int32), s_found_known_count, s_found_known_years))
      (pbr (s_found_known_count < (16 : Int32))
        (pcl (f_X3_add x1 s_found_known_count s_found_known_years) (fun (r_8, count_9, years_10) => (
        some (r_8, count_9, years_10))))
        (some ((-3 : Int32), s_found_known_count, s_found_known_years))))))))

set_option maxRecDepth 100000 in
set_option maxHeartbeats 4000000 in
theorem ct_X11_known (l : Launch) (D : va_G) (cA : Nat → ClassId) (x1 : Int32) (a0 : Nat) (q_found : Nat) (q_found_known : Nat) (q_found_known_years : Nat) (q_text : Nat) (q_ocean : Nat) (q_trees : Nat) (q_images : Nat) (q_search : Nat) (q_stories : Nat) (q_signs : Nat) (q_calendar : Nat) (q_draft : Nat) (q_found_books : Nat) (q_found_sheets : Nat) (q_found_weights : Nat) (s_yearOfNow : Int32) (s_found_dugMarshes : Int32) (s_found_kept : Int32) (s_found_known_count : Int32) (s_found_known_years : Nat → Int32) (o_r : Int32) (o_found_known_count : Int32) (o_found_known_years : Nat → Int32) (hf : f_X11_known x1 s_found_known_count s_found_known_years = some (o_r, o_found_known_count, o_found_known_years)) : CT l yX11_known wsX11_known rm_X11_known D cA [.ref a0, .int x1] (w_X11_known a0 q_found q_found_known q_found_known_years q_text q_ocean q_trees q_images q_search q_stories q_signs q_calendar q_draft q_found_books q_found_sheets q_found_weights cA s_yearOfNow s_found_dugMarshes s_found_kept s_found_known_count s_found_known_years) (w_X11_known a0 q_found q_found_known q_found_known_years q_text q_ocean q_trees q_images q_search q_stories q_signs q_calendar q_draft q_found_books q_found_sheets q_found_weights cA s_yearOfNow s_found_dugMarshes s_found_kept o_found_known_count o_found_known_years) (some (.int o_r)) := by
  refine CT.ofW (cc := cX11_known) (maxL := 2) (ret := (some .int)) (by decide +kernel) rfl (Nat.le_of_ble_eq_true rfl) ?_
  intro p e s m below meth c A C0 hA hP hD ls hl
  have C0 : MX p s m [.ref a0, .int x1].toArray meth c cX11_known 2 wsX11_known RX11 (some .int) D cA := C0
  have hl : lv_has ls 2 [(0, .ref a0), (1, .int x1)] := hl
  obtain ⟨hx, hb, hml, hown, hts, hr, hlocks, hX⟩ := id C0
  have hK := hX.1
  have hN := hX.2
  have hS : va_S A s.heap s.heap [] := va_S.rf
  unfold f_X11_known at hf
  refine lv_iload_n hx hb dX11_known_0 rfl (lv_at hl 1 rfl) ?_
  obtain ⟨r_1, hc_2, hf⟩ := pcl_e hf
  refine m_callS (As := [.int x1]) (rest := []) ⟨hx, hb, hml, hown, hts⟩ hX (ct_X11_isYear l D cA x1 r_1 hc_2) (va_cwS 1 hts gX11_known_X11_isYear rfl rfl rfl (by decide +kernel) ⟨Nat.le_of_ble_eq_true rfl, Nat.le_of_ble_eq_true rfl⟩) hP hD hS hA [] (by decide) rfl rfl (WS' := (w_X11_known a0 q_found q_found_known q_found_known_years q_text q_ocean q_trees q_images q_search q_stories q_signs q_calendar q_draft q_found_books q_found_sheets q_found_weights cA s_yearOfNow s_found_dugMarshes s_found_kept s_found_known_count s_found_known_years)) rfl rfl hl.1 rfl (st' := [.int r_1]) rfl (Nat.le_of_ble_eq_true rfl) ⟨Nat.zero_le _, Nat.zero_le _⟩ dX11_known_1 (fun H locs hP hD hS => ?_)
  refine lv_if_eq (tgt := 21) hx hb dX11_known_4 (by decide) (fun c_3 => ?_) (fun c_3 => ?_)
  · have hf := pbr_t c_3 hf
    refine lv_iconst (v := (-1 : Int32)) hx hb dX11_known_21 (by decide) ?_
    cases hf
    exact m_iret hx hb hr hlocks hP hS dX11_known_22
  have hf := pbr_f c_3 hf
  refine lv_aload_n hx hb dX11_known_7 rfl (lv_at hl 0 rfl) ?_
  refine va_get (D := D) (ci := 11) (v := .ref q_found) (C := RX11) (T := TX11) (N := 11) hx hb hts hn_X11_known_X11 hown hK hP 0 rfl rfl 3 (by decide) (hts _ hw_X11_known_f33) (fun _ h9 => h9) rfl dX11_known_8 ?_
  refine va_getN (D := D) (ci := 2) (v := .ref q_found_known) (C := RX2) (T := TX2) (N := 6) hx hb hts hn_X11_known_X2 hown hK hP 1 rfl rfl 2 (by decide) (va_Nw.use rfl (hN _ nw_X11_290)) (fun _ h9 => h9) rfl dX11_known_11 ?_
  refine lv_iload_n hx hb dX11_known_14 rfl (lv_at hl 1 rfl) ?_
  obtain ⟨r_4, hc_5, hf⟩ := pcl_e hf
  refine m_callV (As := [.int x1]) (rest := []) ⟨hx, hb, hml, hown, hts⟩ hX (ct_X3_isLater l D cA x1 q_found_known q_found_known_years s_found_known_count s_found_known_years r_4 hc_5) (cwV 1 hts gX11_known_X3_isLater rfl rfl rfl (by decide +kernel) ⟨Nat.le_of_ble_eq_true rfl, Nat.le_of_ble_eq_true rfl⟩) hP hD hS hA [2, 3] (by decide) rfl rfl (WS' := (w_X11_known a0 q_found q_found_known q_found_known_years q_text q_ocean q_trees q_images q_search q_stories q_signs q_calendar q_draft q_found_books q_found_sheets q_found_weights cA s_yearOfNow s_found_dugMarshes s_found_kept s_found_known_count s_found_known_years)) rfl 2 3 rfl rfl rfl hl.1 rfl (st' := [.int r_4]) rfl (Nat.le_of_ble_eq_true rfl) ⟨Nat.zero_le _, Nat.zero_le _⟩ dX11_known_15 (fun H locs hP hD hS => ?_)
  refine lv_if_ne (tgt := 23) hx hb dX11_known_18 (by decide) (fun c_6 => ?_) (fun c_6 => ?_)
  · have hf := pbr_f c_6 hf
    refine lv_aload_n hx hb dX11_known_23 rfl (lv_at hl 0 rfl) ?_
    refine va_get (D := D) (ci := 11) (v := .ref q_found) (C := RX11) (T := TX11) (N := 11) hx hb hts hn_X11_known_X11 hown hK hP 0 rfl rfl 3 (by decide) (hts _ hw_X11_known_f33) (fun _ h9 => h9) rfl dX11_known_24 ?_
    refine va_getN (D := D) (ci := 2) (v := .ref q_found_known) (C := RX2) (T := TX2) (N := 6) hx hb hts hn_X11_known_X2 hown hK hP 1 rfl rfl 2 (by decide) (va_Nw.use rfl (hN _ nw_X11_290)) (fun _ h9 => h9) rfl dX11_known_27 ?_
    refine va_getN (D := D) (ci := 3) (v := .int s_found_known_count) (C := RX3) (T := TX3) (N := 2) hx hb hts hn_X11_known_X3 hown hK hP 2 rfl rfl 1 (by decide) (va_Nw.use rfl (hN _ nw_X11_299)) (fun _ h9 => h9) rfl dX11_known_30 ?_
    refine lv_bipush (v := (16 : Int32)) hx hb dX11_known_33 (by decide) ?_
    refine lv_icmp_lt (tgt := 43) hx hb dX11_known_35 (by decide) (fun c_7 => ?_) (fun c_7 => ?_)
    · have hf := pbr_t c_7 hf
      refine lv_aload_n hx hb dX11_known_43 rfl (lv_at hl 0 rfl) ?_
      refine va_get (D := D) (ci := 11) (v := .ref q_found) (C := RX11) (T := TX11) (N := 11) hx hb hts hn_X11_known_X11 hown hK hP 0 rfl rfl 3 (by decide) (hts _ hw_X11_known_f33) (fun _ h9 => h9) rfl dX11_known_44 ?_
      refine va_getN (D := D) (ci := 2) (v := .ref q_found_known) (C := RX2) (T := TX2) (N := 6) hx hb hts hn_X11_known_X2 hown hK hP 1 rfl rfl 2 (by decide) (va_Nw.use rfl (hN _ nw_X11_290)) (fun _ h9 => h9) rfl dX11_known_47 ?_
      refine lv_iload_n hx hb dX11_known_50 rfl (lv_at hl 1 rfl) ?_
      obtain ⟨⟨r_8, count_9, years_10⟩, hc_11, hf⟩ := pcl_e hf
      refine m_callV (As := [.int x1]) (rest := []) ⟨hx, hb, hml, hown, hts⟩ hX (ct_X3_add l D cA x1 q_found_known q_found_known_years s_found_known_count s_found_known_years r_8 count_9 years_10 hc_11) (cwV 1 hts gX11_known_X3_add rfl rfl rfl (by decide +kernel) ⟨Nat.le_of_ble_eq_true rfl, Nat.le_of_ble_eq_true rfl⟩) hP hD hS hA [2, 3] (by decide) rfl rfl (WS' := (w_X11_known a0 q_found q_found_known q_found_known_years q_text q_ocean q_trees q_images q_search q_stories q_signs q_calendar q_draft q_found_books q_found_sheets q_found_weights cA s_yearOfNow s_found_dugMarshes s_found_kept count_9 years_10)) rfl 2 3 rfl rfl rfl hl.1 rfl (st' := [.int r_8]) rfl (Nat.le_of_ble_eq_true rfl) ⟨Nat.zero_le _, Nat.zero_le _⟩ dX11_known_51 (fun H locs hP hD hS => ?_)
      cases hf
      exact m_iret hx hb hr hlocks hP hS dX11_known_54
    have hf := pbr_f c_7 hf
    refine lv_bipush (v := (-3 : Int32)) hx hb dX11_known_38 (by decide) ?_
    refine lv_goto (tgt := 54) hx hb dX11_known_40 (by decide) ?_
    cases hf
    exact m_iret hx hb hr hlocks hP hS dX11_known_54
  have hf := pbr_t c_6 hf
  refine lv_iconst (v := (-1 : Int32)) hx hb dX11_known_21 (by decide) ?_
  cases hf
  exact m_iret hx hb hr hlocks hP hS dX11_known_22

/-! ===== OrphanWave.next(II)I ===== -/
abbrev rm_X11_next : Room := { frames := 2, cells := 0, slots := 0, locals := 57 }
abbrev w_X11_next (a0 : Nat) (q_found : Nat) (q_found_known : Nat) (q_found_known_years : Nat) (q_text : Nat) (q_ocean : Nat) (q_trees : Nat) (q_images : Nat) (q_search : Nat) (q_stories : Nat) (q_signs : Nat) (q_calendar : Nat) (q_draft : Nat) (q_found_books : Nat) (q_found_sheets : Nat) (q_found_weights : Nat) (cA : Nat → ClassId) (s_yearOfNow : Int32) (s_found_dugMarshes : Int32) (s_found_kept : Int32) (s_found_known_count : Int32) (s_found_known_years : Nat → Int32) : va_W := [(a0, .inr (11, [.ref q_text, .ref q_ocean, .ref q_trees, .ref q_found, .ref q_images, .ref q_search, .ref q_stories, .ref q_signs, .ref q_calendar, .ref q_draft, .int s_yearOfNow])), (q_found, .inr (2, [.ref q_found_books, .ref q_found_sheets, .ref q_found_known, .ref q_found_weights, .int s_found_dugMarshes, .int s_found_kept])), (q_found_known, .inr (3, [.ref q_found_known_years, .int s_found_known_count])), (q_found_known_years, .inl (cA 1, 16, .inl s_found_known_years))]
theorem hn_X11_next_X11 : ∀ w ∈ u_ws RX11 TX11 11, w ∈ wsX11_next := by decide +kernel
theorem hn_X11_next_X2 : ∀ w ∈ u_ws RX2 TX2 6, w ∈ wsX11_next := by decide +kernel
theorem hw_X11_next_c163 : Cond.constant RX11 163 (-1000000) ∈ wsX11_next := by decide +kernel
theorem hw_X11_next_f33 : Cond.fieldLink RX11 33 "OrphanWave" "found" "LOrphanWave$Findings;" ∈ wsX11_next := by decide +kernel
theorem hw_X11_next_f80 : Cond.fieldLink RX11 80 "OrphanWave" "yearOfNow" "I" ∈ wsX11_next := by decide +kernel

def f_X11_next (x1 : Int32) (x2 : Int32) (s_yearOfNow : Int32) (s_found_known_count : Int32) (s_found_known_years : Nat → Int32) : Option ((Int32)) :=
  pcl (f_X11_within x1 (0 : Int32) (9999 : Int32)) (fun r_1 => (
  pbr (r_1 = 0)
    (some ((-1000000 : Int32)))
    (pcl (f_X11_isBit x2) (fun r_4 => (
    pbr (r_4 = 0)
      (some ((-1000000 : Int32)))
      (pcl (f_X3_outlook s_yearOfNow x1 x2 s_found_known_count s_found_known_years) (fun r_7 => (
      some (r_7)))))))))

set_option maxRecDepth 100000 in
set_option maxHeartbeats 4000000 in
theorem ct_X11_next (l : Launch) (D : va_G) (cA : Nat → ClassId) (x1 : Int32) (x2 : Int32) (a0 : Nat) (q_found : Nat) (q_found_known : Nat) (q_found_known_years : Nat) (q_text : Nat) (q_ocean : Nat) (q_trees : Nat) (q_images : Nat) (q_search : Nat) (q_stories : Nat) (q_signs : Nat) (q_calendar : Nat) (q_draft : Nat) (q_found_books : Nat) (q_found_sheets : Nat) (q_found_weights : Nat) (s_yearOfNow : Int32) (s_found_dugMarshes : Int32) (s_found_kept : Int32) (s_found_known_count : Int32) (s_found_known_years : Nat → Int32) (o_r : Int32) (hf : f_X11_next x1 x2 s_yearOfNow s_found_known_count s_found_known_years = some o_r) : CT l yX11_next wsX11_next rm_X11_next D cA [.ref a0, .int x1, .int x2] (w_X11_next a0 q_found q_found_known q_found_known_years q_text q_ocean q_trees q_images q_search q_stories q_signs q_calendar q_draft q_found_books q_found_sheets q_found_weights cA s_yearOfNow s_found_dugMarshes s_found_kept s_found_known_count s_found_known_years) (w_X11_next a0 q_found q_found_known q_found_known_years q_text q_ocean q_trees q_images q_search q_stories q_signs q_calendar q_draft q_found_books q_found_sheets q_found_weights cA s_yearOfNow s_found_dugMarshes s_found_kept s_found_known_count s_found_known_years) (some (.int o_r)) := by
  refine CT.ofW (cc := cX11_next) (maxL := 3) (ret := (some .int)) (by decide +kernel) rfl (Nat.le_of_ble_eq_true rfl) ?_
  intro p e s m below meth c A C0 hA hP hD ls hl
  have C0 : MX p s m [.ref a0, .int x1, .int x2].toArray meth c cX11_next 3 wsX11_next RX11 (some .int) D cA := C0
  have hl : lv_has ls 3 [(0, .ref a0), (1, .int x1), (2, .int x2)] := hl
  obtain ⟨hx, hb, hml, hown, hts, hr, hlocks, hX⟩ := id C0
  have hK := hX.1
  have hN := hX.2
  have hS : va_S A s.heap s.heap [] := va_S.rf
  unfold f_X11_next at hf
  refine lv_iload_n hx hb dX11_next_0 rfl (lv_at hl 1 rfl) ?_
  refine lv_iconst (v := (0 : Int32)) hx hb dX11_next_1 (by decide) ?_
  refine lv_sipush (v := (9999 : Int32)) hx hb dX11_next_2 (by decide) ?_
  obtain ⟨r_1, hc_2, hf⟩ := pcl_e hf
  refine m_callS (As := [.int x1, .int (0 : Int32), .int (9999 : Int32)]) (rest := []) ⟨hx, hb, hml, hown, hts⟩ hX (ct_X11_within l D cA x1 (0 : Int32) (9999 : Int32) r_1 hc_2) (va_cwS 3 hts gX11_next_X11_within rfl rfl rfl (by decide +kernel) ⟨Nat.le_of_ble_eq_true rfl, Nat.le_of_ble_eq_true rfl⟩) hP hD hS hA [] (by decide) rfl rfl (WS' := (w_X11_next a0 q_found q_found_known q_found_known_years q_text q_ocean q_trees q_images q_search q_stories q_signs q_calendar q_draft q_found_books q_found_sheets q_found_weights cA s_yearOfNow s_found_dugMarshes s_found_kept s_found_known_count s_found_known_years)) rfl rfl hl.1 rfl (st' := [.int r_1]) rfl (Nat.le_of_ble_eq_true rfl) ⟨Nat.zero_le _, Nat.zero_le _⟩ dX11_next_5 (fun H locs hP hD hS => ?_)
  refine lv_if_eq (tgt := 18) hx hb dX11_next_8 (by decide) (fun c_3 => ?_) (fun c_3 => ?_)
  · have hf := pbr_t c_3 hf
    refine lv_ldc (v := (-1000000 : Int32)) hx hb hown (hts _ hw_X11_next_c163) dX11_next_18 ?_
    cases hf
    exact m_iret hx hb hr hlocks hP hS dX11_next_20
  have hf := pbr_f c_3 hf
  refine lv_iload_n hx hb dX11_next_11 rfl (lv_at hl 2 rfl) ?_
  obtain ⟨r_4, hc_5, hf⟩ := pcl_e hf
  refine m_callS (As := [.int x2]) (rest := []) ⟨hx, hb, hml, hown, hts⟩ hX (ct_X11_isBit l D cA x2 r_4 hc_5) (va_cwS 1 hts gX11_next_X11_isBit rfl rfl rfl (by decide +kernel) ⟨Nat.le_of_ble_eq_true rfl, Nat.le_of_ble_eq_true rfl⟩) hP hD hS hA [] (by decide) rfl rfl (WS' := (w_X11_next a0 q_found q_found_known q_found_known_years q_text q_ocean q_trees q_images q_search q_stories q_signs q_calendar q_draft q_found_books q_found_sheets q_found_weights cA s_yearOfNow s_found_dugMarshes s_found_kept s_found_known_count s_found_known_years)) rfl rfl hl.1 rfl (st' := [.int r_4]) rfl (Nat.le_of_ble_eq_true rfl) ⟨Nat.zero_le _, Nat.zero_le _⟩ dX11_next_12 (fun H locs hP hD hS => ?_)
  refine lv_if_ne (tgt := 21) hx hb dX11_next_15 (by decide) (fun c_6 => ?_) (fun c_6 => ?_)
  · have hf := pbr_f c_6 hf
    refine lv_aload_n hx hb dX11_next_21 rfl (lv_at hl 0 rfl) ?_
    refine va_get (D := D) (ci := 11) (v := .ref q_found) (C := RX11) (T := TX11) (N := 11) hx hb hts hn_X11_next_X11 hown hK hP 0 rfl rfl 3 (by decide) (hts _ hw_X11_next_f33) (fun _ h9 => h9) rfl dX11_next_22 ?_
    refine va_getN (D := D) (ci := 2) (v := .ref q_found_known) (C := RX2) (T := TX2) (N := 6) hx hb hts hn_X11_next_X2 hown hK hP 1 rfl rfl 2 (by decide) (va_Nw.use rfl (hN _ nw_X11_290)) (fun _ h9 => h9) rfl dX11_next_25 ?_
    refine lv_aload_n hx hb dX11_next_28 rfl (lv_at hl 0 rfl) ?_
    refine va_get (D := D) (ci := 11) (v := .int s_yearOfNow) (C := RX11) (T := TX11) (N := 11) hx hb hts hn_X11_next_X11 hown hK hP 0 rfl rfl 10 (by decide) (hts _ hw_X11_next_f80) (fun _ h9 => h9) rfl dX11_next_29 ?_
    refine lv_iload_n hx hb dX11_next_32 rfl (lv_at hl 1 rfl) ?_
    refine lv_iload_n hx hb dX11_next_33 rfl (lv_at hl 2 rfl) ?_
    obtain ⟨r_7, hc_8, hf⟩ := pcl_e hf
    refine m_callV (As := [.int s_yearOfNow, .int x1, .int x2]) (rest := []) ⟨hx, hb, hml, hown, hts⟩ hX (ct_X3_outlook l D cA s_yearOfNow x1 x2 q_found_known q_found_known_years s_found_known_count s_found_known_years r_7 hc_8) (cwV 3 hts gX11_next_X3_outlook rfl rfl rfl (by decide +kernel) ⟨Nat.le_of_ble_eq_true rfl, Nat.le_of_ble_eq_true rfl⟩) hP hD hS hA [2, 3] (by decide) rfl rfl (WS' := (w_X11_next a0 q_found q_found_known q_found_known_years q_text q_ocean q_trees q_images q_search q_stories q_signs q_calendar q_draft q_found_books q_found_sheets q_found_weights cA s_yearOfNow s_found_dugMarshes s_found_kept s_found_known_count s_found_known_years)) rfl 2 3 rfl rfl rfl hl.1 rfl (st' := [.int r_7]) rfl (Nat.le_of_ble_eq_true rfl) ⟨Nat.zero_le _, Nat.zero_le _⟩ dX11_next_34 (fun H locs hP hD hS => ?_)
    cases hf
    exact m_iret hx hb hr hlocks hP hS dX11_next_37
  have hf := pbr_t c_6 hf
  refine lv_ldc (v := (-1000000 : Int32)) hx hb hown (hts _ hw_X11_next_c163) dX11_next_18 ?_
  cases hf
  exact m_iret hx hb hr hlocks hP hS dX11_next_20

/-! ===== OrphanWave.even()I ===== -/
abbrev rm_X11_even : Room := { frames := 2, cells := 0, slots := 0, locals := 36 }
abbrev w_X11_even (a0 : Nat) (q_found : Nat) (q_found_known : Nat) (q_found_known_years : Nat) (q_text : Nat) (q_ocean : Nat) (q_trees : Nat) (q_images : Nat) (q_search : Nat) (q_stories : Nat) (q_signs : Nat) (q_calendar : Nat) (q_draft : Nat) (q_found_books : Nat) (q_found_sheets : Nat) (q_found_weights : Nat) (cA : Nat → ClassId) (s_yearOfNow : Int32) (s_found_dugMarshes : Int32) (s_found_kept : Int32) (s_found_known_count : Int32) (s_found_known_years : Nat → Int32) : va_W := [(a0, .inr (11, [.ref q_text, .ref q_ocean, .ref q_trees, .ref q_found, .ref q_images, .ref q_search, .ref q_stories, .ref q_signs, .ref q_calendar, .ref q_draft, .int s_yearOfNow])), (q_found, .inr (2, [.ref q_found_books, .ref q_found_sheets, .ref q_found_known, .ref q_found_weights, .int s_found_dugMarshes, .int s_found_kept])), (q_found_known, .inr (3, [.ref q_found_known_years, .int s_found_known_count])), (q_found_known_years, .inl (cA 1, 16, .inl s_found_known_years))]
theorem hn_X11_even_X11 : ∀ w ∈ u_ws RX11 TX11 11, w ∈ wsX11_even := by decide +kernel
theorem hn_X11_even_X2 : ∀ w ∈ u_ws RX2 TX2 6, w ∈ wsX11_even := by decide +kernel
theorem hw_X11_even_f33 : Cond.fieldLink RX11 33 "OrphanWave" "found" "LOrphanWave$Findings;" ∈ wsX11_even := by decide +kernel

def f_X11_even (s_found_known_count : Int32) (s_found_known_years : Nat → Int32) : Option ((Int32)) :=
  pcl (f_X3_evenness s_found_known_count s_found_known_years) (fun r_1 => (
  some (r_1)))

set_option maxRecDepth 100000 in
set_option maxHeartbeats 4000000 in
theorem ct_X11_even (l : Launch) (D : va_G) (cA : Nat → ClassId) (a0 : Nat) (q_found : Nat) (q_found_known : Nat) (q_found_known_years : Nat) (q_text : Nat) (q_ocean : Nat) (q_trees : Nat) (q_images : Nat) (q_search : Nat) (q_stories : Nat) (q_signs : Nat) (q_calendar : Nat) (q_draft : Nat) (q_found_books : Nat) (q_found_sheets : Nat) (q_found_weights : Nat) (s_yearOfNow : Int32) (s_found_dugMarshes : Int32) (s_found_kept : Int32) (s_found_known_count : Int32) (s_found_known_years : Nat → Int32) (o_r : Int32) (hf : f_X11_even s_found_known_count s_found_known_years = some o_r) : CT l yX11_even wsX11_even rm_X11_even D cA [.ref a0] (w_X11_even a0 q_found q_found_known q_found_known_years q_text q_ocean q_trees q_images q_search q_stories q_signs q_calendar q_draft q_found_books q_found_sheets q_found_weights cA s_yearOfNow s_found_dugMarshes s_found_kept s_found_known_count s_found_known_years) (w_X11_even a0 q_found q_found_known q_found_known_years q_text q_ocean q_trees q_images q_search q_stories q_signs q_calendar q_draft q_found_books q_found_sheets q_found_weights cA s_yearOfNow s_found_dugMarshes s_found_kept s_found_known_count s_found_known_years) (some (.int o_r)) := by
  refine CT.ofW (cc := cX11_even) (maxL := 1) (ret := (some .int)) (by decide +kernel) rfl (Nat.le_of_ble_eq_true rfl) ?_
  intro p e s m below meth c A C0 hA hP hD ls hl
  have C0 : MX p s m [.ref a0].toArray meth c cX11_even 1 wsX11_even RX11 (some .int) D cA := C0
  have hl : lv_has ls 1 [(0, .ref a0)] := hl
  obtain ⟨hx, hb, hml, hown, hts, hr, hlocks, hX⟩ := id C0
  have hK := hX.1
  have hN := hX.2
  have hS : va_S A s.heap s.heap [] := va_S.rf
  unfold f_X11_even at hf
  refine lv_aload_n hx hb dX11_even_0 rfl (lv_at hl 0 rfl) ?_
  refine va_get (D := D) (ci := 11) (v := .ref q_found) (C := RX11) (T := TX11) (N := 11) hx hb hts hn_X11_even_X11 hown hK hP 0 rfl rfl 3 (by decide) (hts _ hw_X11_even_f33) (fun _ h9 => h9) rfl dX11_even_1 ?_
  refine va_getN (D := D) (ci := 2) (v := .ref q_found_known) (C := RX2) (T := TX2) (N := 6) hx hb hts hn_X11_even_X2 hown hK hP 1 rfl rfl 2 (by decide) (va_Nw.use rfl (hN _ nw_X11_290)) (fun _ h9 => h9) rfl dX11_even_4 ?_
  obtain ⟨r_1, hc_2, hf⟩ := pcl_e hf
  refine m_callV (As := []) (rest := []) ⟨hx, hb, hml, hown, hts⟩ hX (ct_X3_evenness l D cA q_found_known q_found_known_years s_found_known_count s_found_known_years r_1 hc_2) (cwV 0 hts gX11_even_X3_evenness rfl rfl rfl (by decide +kernel) ⟨Nat.le_of_ble_eq_true rfl, Nat.le_of_ble_eq_true rfl⟩) hP hD hS hA [2, 3] (by decide) rfl rfl (WS' := (w_X11_even a0 q_found q_found_known q_found_known_years q_text q_ocean q_trees q_images q_search q_stories q_signs q_calendar q_draft q_found_books q_found_sheets q_found_weights cA s_yearOfNow s_found_dugMarshes s_found_kept s_found_known_count s_found_known_years)) rfl 2 3 rfl rfl rfl hl.1 rfl (st' := [.int r_1]) rfl (Nat.le_of_ble_eq_true rfl) ⟨Nat.zero_le _, Nat.zero_le _⟩ dX11_even_7 (fun H locs hP hD hS => ?_)
  cases hf
  exact m_iret hx hb hr hlocks hP hS dX11_even_10

/-! ===== OrphanWave.story(II)J ===== -/
abbrev rm_X11_story : Room := { frames := 2, cells := 0, slots := 0, locals := 42 }
abbrev w_X11_story (a0 : Nat) (q_found : Nat) (q_found_weights : Nat) (q_text : Nat) (q_ocean : Nat) (q_trees : Nat) (q_images : Nat) (q_search : Nat) (q_stories : Nat) (q_signs : Nat) (q_calendar : Nat) (q_draft : Nat) (q_found_books : Nat) (q_found_sheets : Nat) (q_found_known : Nat) (cA : Nat → ClassId) (s_yearOfNow : Int32) (s_found_dugMarshes : Int32) (s_found_kept : Int32) (s_found_weights : Nat → Int64) : va_W := [(a0, .inr (11, [.ref q_text, .ref q_ocean, .ref q_trees, .ref q_found, .ref q_images, .ref q_search, .ref q_stories, .ref q_signs, .ref q_calendar, .ref q_draft, .int s_yearOfNow])), (q_found, .inr (2, [.ref q_found_books, .ref q_found_sheets, .ref q_found_known, .ref q_found_weights, .int s_found_dugMarshes, .int s_found_kept])), (q_found_weights, .inl (cA 2, 5, .inr (.inl s_found_weights)))]
theorem hn_X11_story_X11 : ∀ w ∈ u_ws RX11 TX11 11, w ∈ wsX11_story := by decide +kernel
theorem hn_X11_story_X2 : ∀ w ∈ u_ws RX2 TX2 6, w ∈ wsX11_story := by decide +kernel
theorem hw_X11_story_c311 : Cond.constantLong RX11 311 (-1) ∈ wsX11_story := by decide +kernel
theorem hw_X11_story_f33 : Cond.fieldLink RX11 33 "OrphanWave" "found" "LOrphanWave$Findings;" ∈ wsX11_story := by decide +kernel

def f_X11_story (x1 : Int32) (x2 : Int32) (s_found_weights : Nat → Int64) : Option ((Int64) × (Nat → Int64)) :=
  pcl (f_X11_isStory x1) (fun r_1 => (
  pbr (r_1 = 0)
    (some ((-1 : Int64), s_found_weights))
    (pcl (f_X11_within x2 (0 : Int32) (99 : Int32)) (fun r_4 => (
    pbr (r_4 = 0)
      (some ((-1 : Int64), s_found_weights))
      (pgd (pin x1 5) (
      plt ((s_found_weights x1.toNatClampNeg) : Int64) (fun x3_8 => (
      plt (vp_updL s_found_weights x1.toNatClampNeg x2.toInt64 : Nat → Int64) (fun f_9 => (
      some (x3_8, f_9))))))))))))

set_option maxRecDepth 100000 in
set_option maxHeartbeats 4000000 in
theorem ct_X11_story (l : Launch) (D : va_G) (cA : Nat → ClassId) (x1 : Int32) (x2 : Int32) (a0 : Nat) (q_found : Nat) (q_found_weights : Nat) (q_text : Nat) (q_ocean : Nat) (q_trees : Nat) (q_images : Nat) (q_search : Nat) (q_stories : Nat) (q_signs : Nat) (q_calendar : Nat) (q_draft : Nat) (q_found_books : Nat) (q_found_sheets : Nat) (q_found_known : Nat) (s_yearOfNow : Int32) (s_found_dugMarshes : Int32) (s_found_kept : Int32) (s_found_weights : Nat → Int64) (o_r : Int64) (o_found_weights : Nat → Int64) (hf : f_X11_story x1 x2 s_found_weights = some (o_r, o_found_weights)) : CT l yX11_story wsX11_story rm_X11_story D cA [.ref a0, .int x1, .int x2] (w_X11_story a0 q_found q_found_weights q_text q_ocean q_trees q_images q_search q_stories q_signs q_calendar q_draft q_found_books q_found_sheets q_found_known cA s_yearOfNow s_found_dugMarshes s_found_kept s_found_weights) (w_X11_story a0 q_found q_found_weights q_text q_ocean q_trees q_images q_search q_stories q_signs q_calendar q_draft q_found_books q_found_sheets q_found_known cA s_yearOfNow s_found_dugMarshes s_found_kept o_found_weights) (some (.long o_r)) := by
  refine CT.ofW (cc := cX11_story) (maxL := 5) (ret := (some .long)) (by decide +kernel) rfl (Nat.le_of_ble_eq_true rfl) ?_
  intro p e s m below meth c A C0 hA hP hD ls hl
  have C0 : MX p s m [.ref a0, .int x1, .int x2].toArray meth c cX11_story 5 wsX11_story RX11 (some .long) D cA := C0
  have hl : lv_has ls 5 [(0, .ref a0), (1, .int x1), (2, .int x2)] := hl
  obtain ⟨hx, hb, hml, hown, hts, hr, hlocks, hX⟩ := id C0
  have hK := hX.1
  have hN := hX.2
  have hS : va_S A s.heap s.heap [] := va_S.rf
  unfold f_X11_story at hf
  refine lv_iload_n hx hb dX11_story_0 rfl (lv_at hl 1 rfl) ?_
  obtain ⟨r_1, hc_2, hf⟩ := pcl_e hf
  refine m_callS (As := [.int x1]) (rest := []) ⟨hx, hb, hml, hown, hts⟩ hX (ct_X11_isStory l D cA x1 r_1 hc_2) (va_cwS 1 hts gX11_story_X11_isStory rfl rfl rfl (by decide +kernel) ⟨Nat.le_of_ble_eq_true rfl, Nat.le_of_ble_eq_true rfl⟩) hP hD hS hA [] (by decide) rfl rfl (WS' := (w_X11_story a0 q_found q_found_weights q_text q_ocean q_trees q_images q_search q_stories q_signs q_calendar q_draft q_found_books q_found_sheets q_found_known cA s_yearOfNow s_found_dugMarshes s_found_kept s_found_weights)) rfl rfl hl.1 rfl (st' := [.int r_1]) rfl (Nat.le_of_ble_eq_true rfl) ⟨Nat.zero_le _, Nat.zero_le _⟩ dX11_story_1 (fun H locs hP hD hS => ?_)
  refine lv_if_eq (tgt := 17) hx hb dX11_story_4 (by decide) (fun c_3 => ?_) (fun c_3 => ?_)
  · have hf := pbr_t c_3 hf
    refine lv_ldc2 (v := (-1 : Int64)) hx hb hown (hts _ hw_X11_story_c311) dX11_story_17 ?_
    cases hf
    exact m_lret hx hb hr hlocks hP hS dX11_story_20
  have hf := pbr_f c_3 hf
  refine lv_iload_n hx hb dX11_story_7 rfl (lv_at hl 2 rfl) ?_
  refine lv_iconst (v := (0 : Int32)) hx hb dX11_story_8 (by decide) ?_
  refine lv_bipush (v := (99 : Int32)) hx hb dX11_story_9 (by decide) ?_
  obtain ⟨r_4, hc_5, hf⟩ := pcl_e hf
  refine m_callS (As := [.int x2, .int (0 : Int32), .int (99 : Int32)]) (rest := []) ⟨hx, hb, hml, hown, hts⟩ hX (ct_X11_within l D cA x2 (0 : Int32) (99 : Int32) r_4 hc_5) (va_cwS 3 hts gX11_story_X11_within rfl rfl rfl (by decide +kernel) ⟨Nat.le_of_ble_eq_true rfl, Nat.le_of_ble_eq_true rfl⟩) hP hD hS hA [] (by decide) rfl rfl (WS' := (w_X11_story a0 q_found q_found_weights q_text q_ocean q_trees q_images q_search q_stories q_signs q_calendar q_draft q_found_books q_found_sheets q_found_known cA s_yearOfNow s_found_dugMarshes s_found_kept s_found_weights)) rfl rfl hl.1 rfl (st' := [.int r_4]) rfl (Nat.le_of_ble_eq_true rfl) ⟨Nat.zero_le _, Nat.zero_le _⟩ dX11_story_11 (fun H locs hP hD hS => ?_)
  refine lv_if_ne (tgt := 21) hx hb dX11_story_14 (by decide) (fun c_6 => ?_) (fun c_6 => ?_)
  · have hf := pbr_f c_6 hf
    refine lv_aload_n hx hb dX11_story_21 rfl (lv_at hl 0 rfl) ?_
    refine va_get (D := D) (ci := 11) (v := .ref q_found) (C := RX11) (T := TX11) (N := 11) hx hb hts hn_X11_story_X11 hown hK hP 0 rfl rfl 3 (by decide) (hts _ hw_X11_story_f33) (fun _ h9 => h9) rfl dX11_story_22 ?_
    refine va_getN (D := D) (ci := 2) (v := .ref q_found_weights) (C := RX2) (T := TX2) (N := 6) hx hb hts hn_X11_story_X2 hown hK hP 1 rfl rfl 3 (by decide) (va_Nw.use rfl (hN _ nw_X11_313)) (fun _ h9 => h9) rfl dX11_story_25 ?_
    refine lv_iload_n hx hb dX11_story_28 rfl (lv_at hl 1 rfl) ?_
    obtain ⟨g_7, hf⟩ := pgd_e hf
    refine va_lald hx hb hK hP 2 2 rfl rfl g_7 dX11_story_29 ?_
    refine lv_topl (fun x3_8 ex3_8 => ?_)
    have hf := plt_e ex3_8 hf
    refine lv_lstore_n (lv' := [(3, .long x3_8), (0, .ref a0), (1, .int x1), (2, .int x2)]) hx hb dX11_story_30 rfl hl (by decide) rfl (fun ls hl => ?_)
    refine lv_aload_n hx hb dX11_story_31 rfl (lv_at hl 1 rfl) ?_
    refine va_get (D := D) (ci := 11) (v := .ref q_found) (C := RX11) (T := TX11) (N := 11) hx hb hts hn_X11_story_X11 hown hK hP 0 rfl rfl 3 (by decide) (hts _ hw_X11_story_f33) (fun _ h9 => h9) rfl dX11_story_32 ?_
    refine va_getN (D := D) (ci := 2) (v := .ref q_found_weights) (C := RX2) (T := TX2) (N := 6) hx hb hts hn_X11_story_X2 hown hK hP 1 rfl rfl 3 (by decide) (va_Nw.use rfl (hN _ nw_X11_313)) (fun _ h9 => h9) rfl dX11_story_35 ?_
    refine lv_iload_n hx hb dX11_story_38 rfl (lv_at hl 2 rfl) ?_
    refine lv_iload_n hx hb dX11_story_39 rfl (lv_at hl 3 rfl) ?_
    refine lv_i2l hx hb dX11_story_40 rfl ?_
    refine va_last hx hb hK hP hD hS 2 2 rfl rfl g_7 dX11_story_41 (fun H locs hP hD hS => ?_)
    obtain ⟨f_9, ef_9⟩ : ∃ z : Nat → Int64, z = vp_updL s_found_weights x1.toNatClampNeg x2.toInt64 := ⟨_, rfl⟩
    have hf := plt_e ef_9 hf
    have hP : va_P D vwCl (w_X11_story a0 q_found q_found_weights q_text q_ocean q_trees q_images q_search q_stories q_signs q_calendar q_draft q_found_books q_found_sheets q_found_known cA s_yearOfNow s_found_dugMarshes s_found_kept f_9) H := by rw [ef_9]; exact hP
    have hD : va_D A (w_X11_story a0 q_found q_found_weights q_text q_ocean q_trees q_images q_search q_stories q_signs q_calendar q_draft q_found_books q_found_sheets q_found_known cA s_yearOfNow s_found_dugMarshes s_found_kept f_9) := by rw [ef_9]; exact hD
    refine lv_lload_n hx hb dX11_story_42 rfl (lv_at hl 0 rfl) ?_
    cases hf
    exact m_lret hx hb hr hlocks hP hS dX11_story_43
  have hf := pbr_t c_6 hf
  refine lv_ldc2 (v := (-1 : Int64)) hx hb hown (hts _ hw_X11_story_c311) dX11_story_17 ?_
  cases hf
  exact m_lret hx hb hr hlocks hP hS dX11_story_20

/-! ===== OrphanWave.chance(III)I ===== -/
abbrev rm_X11_chance : Room := { frames := 2, cells := 0, slots := 0, locals := 42 }
abbrev wx_X11_chance (a0 : Nat) (q_stories : Nat) (q_stories_chances : Nat) (q_text : Nat) (q_ocean : Nat) (q_trees : Nat) (q_found : Nat) (q_images : Nat) (q_search : Nat) (q_signs : Nat) (q_calendar : Nat) (q_draft : Nat) (q_stories_behind : Nat) (r_stories_chances : Nat → Nat) (cA : Nat → ClassId) (s_yearOfNow : Int32) (s_stories_chances : Nat → Nat → Int32) : va_W := [(a0, .inr (11, [.ref q_text, .ref q_ocean, .ref q_trees, .ref q_found, .ref q_images, .ref q_search, .ref q_stories, .ref q_signs, .ref q_calendar, .ref q_draft, .int s_yearOfNow])), (q_stories, .inr (8, [.ref q_found, .ref q_stories_chances, .ref q_stories_behind])), (q_stories_chances, .inl (cA 5, 5, .inr (.inr (.inr (.inr (gro 5 r_stories_chances))))))]
abbrev w_X11_chance (a0 : Nat) (q_stories : Nat) (q_stories_chances : Nat) (q_text : Nat) (q_ocean : Nat) (q_trees : Nat) (q_found : Nat) (q_images : Nat) (q_search : Nat) (q_signs : Nat) (q_calendar : Nat) (q_draft : Nat) (q_stories_behind : Nat) (r_stories_chances : Nat → Nat) (cA : Nat → ClassId) (s_yearOfNow : Int32) (s_stories_chances : Nat → Nat → Int32) : va_W := [(a0, .inr (11, [.ref q_text, .ref q_ocean, .ref q_trees, .ref q_found, .ref q_images, .ref q_search, .ref q_stories, .ref q_signs, .ref q_calendar, .ref q_draft, .int s_yearOfNow])), (q_stories, .inr (8, [.ref q_found, .ref q_stories_chances, .ref q_stories_behind])), (q_stories_chances, .inl (cA 5, 5, .inr (.inr (.inr (.inr (gro 5 r_stories_chances))))))] ++ grw 5 r_stories_chances (cA 1) 6 s_stories_chances
theorem hn_X11_chance_X11 : ∀ w ∈ u_ws RX11 TX11 11, w ∈ wsX11_chance := by decide +kernel
theorem hn_X11_chance_X8 : ∀ w ∈ u_ws RX8 TX8 3, w ∈ wsX11_chance := by decide +kernel
theorem hw_X11_chance_f59 : Cond.fieldLink RX11 59 "OrphanWave" "stories" "LOrphanWave$Stories;" ∈ wsX11_chance := by decide +kernel

def f_X11_chance (x1 : Int32) (x2 : Int32) (x3 : Int32) (s_stories_chances : Nat → Nat → Int32) : Option ((Int32) × (Nat → Nat → Int32)) :=
  pcl (f_X11_isStory x1) (fun r_1 => (
  pbr (r_1 = 0)
    (some ((-1 : Int32), s_stories_chances))
    (pcl (f_X11_isMarsh x2) (fun r_4 => (
    pbr (r_4 = 0)
      (some ((-1 : Int32), s_stories_chances))
      (pcl (f_X11_within x3 (0 : Int32) (10 : Int32)) (fun r_7 => (
      pbr (r_7 = 0)
        (some ((-1 : Int32), s_stories_chances))
        (pgd (pin x1 5) (
        pgd (pin x2 6) (
        plt ((s_stories_chances x1.toNatClampNeg x2.toNatClampNeg) : Int32) (fun x4_12 => (
        plt (up2 s_stories_chances x1.toNatClampNeg x2.toNatClampNeg x3 : Nat → Nat → Int32) (fun f_13 => (
        some (x4_12, f_13))))))))))))))))

set_option maxRecDepth 100000 in
set_option maxHeartbeats 4000000 in
theorem ct_X11_chance (l : Launch) (D : va_G) (cA : Nat → ClassId) (x1 : Int32) (x2 : Int32) (x3 : Int32) (a0 : Nat) (q_stories : Nat) (q_stories_chances : Nat) (q_text : Nat) (q_ocean : Nat) (q_trees : Nat) (q_found : Nat) (q_images : Nat) (q_search : Nat) (q_signs : Nat) (q_calendar : Nat) (q_draft : Nat) (q_stories_behind : Nat) (r_stories_chances : Nat → Nat) (s_yearOfNow : Int32) (s_stories_chances : Nat → Nat → Int32) (o_r : Int32) (o_stories_chances : Nat → Nat → Int32) (hf : f_X11_chance x1 x2 x3 s_stories_chances = some (o_r, o_stories_chances)) : CT l yX11_chance wsX11_chance rm_X11_chance D cA [.ref a0, .int x1, .int x2, .int x3] (w_X11_chance a0 q_stories q_stories_chances q_text q_ocean q_trees q_found q_images q_search q_signs q_calendar q_draft q_stories_behind r_stories_chances cA s_yearOfNow s_stories_chances) (w_X11_chance a0 q_stories q_stories_chances q_text q_ocean q_trees q_found q_images q_search q_signs q_calendar q_draft q_stories_behind r_stories_chances cA s_yearOfNow o_stories_chances) (some (.int o_r)) := by
  refine CT.ofW (cc := cX11_chance) (maxL := 5) (ret := (some .int)) (by decide +kernel) rfl (Nat.le_of_ble_eq_true rfl) ?_
  intro p e s m below meth c A C0 hA hP hD ls hl
  have C0 : MX p s m [.ref a0, .int x1, .int x2, .int x3].toArray meth c cX11_chance 5 wsX11_chance RX11 (some .int) D cA := C0
  have hl : lv_has ls 5 [(0, .ref a0), (1, .int x1), (2, .int x2), (3, .int x3)] := hl
  obtain ⟨hx, hb, hml, hown, hts, hr, hlocks, hX⟩ := id C0
  have hK := hX.1
  have hN := hX.2
  have hS : va_S A s.heap s.heap [] := va_S.rf
  unfold f_X11_chance at hf
  refine lv_iload_n hx hb dX11_chance_0 rfl (lv_at hl 1 rfl) ?_
  obtain ⟨r_1, hc_2, hf⟩ := pcl_e hf
  refine m_callS (As := [.int x1]) (rest := []) ⟨hx, hb, hml, hown, hts⟩ hX (ct_X11_isStory l D cA x1 r_1 hc_2) (va_cwS 1 hts gX11_chance_X11_isStory rfl rfl rfl (by decide +kernel) ⟨Nat.le_of_ble_eq_true rfl, Nat.le_of_ble_eq_true rfl⟩) hP hD hS hA [] (by decide) rfl rfl (WS' := (w_X11_chance a0 q_stories q_stories_chances q_text q_ocean q_trees q_found q_images q_search q_signs q_calendar q_draft q_stories_behind r_stories_chances cA s_yearOfNow s_stories_chances)) rfl rfl hl.1 rfl (st' := [.int r_1]) rfl (Nat.le_of_ble_eq_true rfl) ⟨Nat.zero_le _, Nat.zero_le _⟩ dX11_chance_1 (fun H locs hP hD hS => ?_)
  refine lv_if_eq (tgt := 24) hx hb dX11_chance_4 (by decide) (fun c_3 => ?_) (fun c_3 => ?_)
  · have hf := pbr_t c_3 hf
    refine lv_iconst (v := (-1 : Int32)) hx hb dX11_chance_24 (by decide) ?_
    cases hf
    exact m_iret hx hb hr hlocks hP hS dX11_chance_25
  have hf := pbr_f c_3 hf
  refine lv_iload_n hx hb dX11_chance_7 rfl (lv_at hl 2 rfl) ?_
  obtain ⟨r_4, hc_5, hf⟩ := pcl_e hf
  refine m_callS (As := [.int x2]) (rest := []) ⟨hx, hb, hml, hown, hts⟩ hX (ct_X11_isMarsh l D cA x2 r_4 hc_5) (va_cwS 1 hts gX11_chance_X11_isMarsh rfl rfl rfl (by decide +kernel) ⟨Nat.le_of_ble_eq_true rfl, Nat.le_of_ble_eq_true rfl⟩) hP hD hS hA [] (by decide) rfl rfl (WS' := (w_X11_chance a0 q_stories q_stories_chances q_text q_ocean q_trees q_found q_images q_search q_signs q_calendar q_draft q_stories_behind r_stories_chances cA s_yearOfNow s_stories_chances)) rfl rfl hl.1 rfl (st' := [.int r_4]) rfl (Nat.le_of_ble_eq_true rfl) ⟨Nat.zero_le _, Nat.zero_le _⟩ dX11_chance_8 (fun H locs hP hD hS => ?_)
  refine lv_if_eq (tgt := 24) hx hb dX11_chance_11 (by decide) (fun c_6 => ?_) (fun c_6 => ?_)
  · have hf := pbr_t c_6 hf
    refine lv_iconst (v := (-1 : Int32)) hx hb dX11_chance_24 (by decide) ?_
    cases hf
    exact m_iret hx hb hr hlocks hP hS dX11_chance_25
  have hf := pbr_f c_6 hf
  refine lv_iload_n hx hb dX11_chance_14 rfl (lv_at hl 3 rfl) ?_
  refine lv_iconst (v := (0 : Int32)) hx hb dX11_chance_15 (by decide) ?_
  refine lv_bipush (v := (10 : Int32)) hx hb dX11_chance_16 (by decide) ?_
  obtain ⟨r_7, hc_8, hf⟩ := pcl_e hf
  refine m_callS (As := [.int x3, .int (0 : Int32), .int (10 : Int32)]) (rest := []) ⟨hx, hb, hml, hown, hts⟩ hX (ct_X11_within l D cA x3 (0 : Int32) (10 : Int32) r_7 hc_8) (va_cwS 3 hts gX11_chance_X11_within rfl rfl rfl (by decide +kernel) ⟨Nat.le_of_ble_eq_true rfl, Nat.le_of_ble_eq_true rfl⟩) hP hD hS hA [] (by decide) rfl rfl (WS' := (w_X11_chance a0 q_stories q_stories_chances q_text q_ocean q_trees q_found q_images q_search q_signs q_calendar q_draft q_stories_behind r_stories_chances cA s_yearOfNow s_stories_chances)) rfl rfl hl.1 rfl (st' := [.int r_7]) rfl (Nat.le_of_ble_eq_true rfl) ⟨Nat.zero_le _, Nat.zero_le _⟩ dX11_chance_18 (fun H locs hP hD hS => ?_)
  refine lv_if_ne (tgt := 26) hx hb dX11_chance_21 (by decide) (fun c_9 => ?_) (fun c_9 => ?_)
  · have hf := pbr_f c_9 hf
    refine lv_aload_n hx hb dX11_chance_26 rfl (lv_at hl 0 rfl) ?_
    refine va_get (D := D) (ci := 11) (v := .ref q_stories) (C := RX11) (T := TX11) (N := 11) hx hb hts hn_X11_chance_X11 hown hK hP 0 rfl rfl 6 (by decide) (hts _ hw_X11_chance_f59) (fun _ h9 => h9) rfl dX11_chance_27 ?_
    refine va_getN (D := D) (ci := 8) (v := .ref q_stories_chances) (C := RX8) (T := TX8) (N := 3) hx hb hts hn_X11_chance_X8 hown hK hP 1 rfl rfl 1 (by decide) (va_Nw.use rfl (hN _ nw_X11_317)) (fun _ h9 => h9) rfl dX11_chance_30 ?_
    refine lv_iload_n hx hb dX11_chance_33 rfl (lv_at hl 1 rfl) ?_
    obtain ⟨g_10, hf⟩ := pgd_e hf
    refine m_aald hx hb hK hP 2 rfl g_10 dX11_chance_34 ?_
    refine lv_iload_n hx hb dX11_chance_35 rfl (lv_at hl 2 rfl) ?_
    obtain ⟨g_11, hf⟩ := pgd_e hf
    refine m_rald (i := x1) hx hb hK hP rfl g_10 g_11 dX11_chance_36 ?_
    refine lv_topi (fun x4_12 ex4_12 => ?_)
    have hf := plt_e ex4_12 hf
    refine lv_istore (lv' := [(4, .int x4_12), (0, .ref a0), (1, .int x1), (2, .int x2), (3, .int x3)]) hx hb dX11_chance_37 hl (by decide) rfl (fun ls hl => ?_)
    refine lv_aload_n hx hb dX11_chance_39 rfl (lv_at hl 1 rfl) ?_
    refine va_get (D := D) (ci := 11) (v := .ref q_stories) (C := RX11) (T := TX11) (N := 11) hx hb hts hn_X11_chance_X11 hown hK hP 0 rfl rfl 6 (by decide) (hts _ hw_X11_chance_f59) (fun _ h9 => h9) rfl dX11_chance_40 ?_
    refine va_getN (D := D) (ci := 8) (v := .ref q_stories_chances) (C := RX8) (T := TX8) (N := 3) hx hb hts hn_X11_chance_X8 hown hK hP 1 rfl rfl 1 (by decide) (va_Nw.use rfl (hN _ nw_X11_317)) (fun _ h9 => h9) rfl dX11_chance_43 ?_
    refine lv_iload_n hx hb dX11_chance_46 rfl (lv_at hl 2 rfl) ?_
    refine m_aald hx hb hK hP 2 rfl g_10 dX11_chance_47 ?_
    refine lv_iload_n hx hb dX11_chance_48 rfl (lv_at hl 3 rfl) ?_
    refine lv_iload_n hx hb dX11_chance_49 rfl (lv_at hl 4 rfl) ?_
    refine m_rast (i := x1) hx hb hK hP hD hS rfl g_10 g_11 dX11_chance_50 (fun H locs hP hD hS => ?_)
    obtain ⟨f_13, ef_13⟩ : ∃ z : Nat → Nat → Int32, z = up2 s_stories_chances x1.toNatClampNeg x2.toNatClampNeg x3 := ⟨_, rfl⟩
    have hf := plt_e ef_13 hf
    have hP : va_P D vwCl (w_X11_chance a0 q_stories q_stories_chances q_text q_ocean q_trees q_found q_images q_search q_signs q_calendar q_draft q_stories_behind r_stories_chances cA s_yearOfNow f_13) H := by rw [ef_13]; exact hP
    have hD : va_D A (w_X11_chance a0 q_stories q_stories_chances q_text q_ocean q_trees q_found q_images q_search q_signs q_calendar q_draft q_stories_behind r_stories_chances cA s_yearOfNow f_13) := by rw [ef_13]; exact hD
    refine lv_iload hx hb dX11_chance_51 (lv_at hl 0 rfl) ?_
    cases hf
    exact m_iret hx hb hr hlocks hP hS dX11_chance_53
  have hf := pbr_t c_9 hf
  refine lv_iconst (v := (-1 : Int32)) hx hb dX11_chance_24 (by decide) ?_
  cases hf
  exact m_iret hx hb hr hlocks hP hS dX11_chance_25

/-! ===== OrphanWave.dug(II)I ===== -/
abbrev rm_X11_dug : Room := { frames := 2, cells := 0, slots := 0, locals := 55 }
abbrev wx_X11_dug (a0 : Nat) (q_found : Nat) (q_stories : Nat) (q_stories_behind : Nat) (q_found_weights : Nat) (q_stories_chances : Nat) (q_text : Nat) (q_ocean : Nat) (q_trees : Nat) (q_images : Nat) (q_search : Nat) (q_signs : Nat) (q_calendar : Nat) (q_draft : Nat) (q_found_books : Nat) (q_found_sheets : Nat) (q_found_known : Nat) (r_stories_chances : Nat → Nat) (cA : Nat → ClassId) (s_yearOfNow : Int32) (s_found_dugMarshes : Int32) (s_found_kept : Int32) (s_stories_behind : Nat → Int64) (s_found_weights : Nat → Int64) (s_stories_chances : Nat → Nat → Int32) : va_W := [(a0, .inr (11, [.ref q_text, .ref q_ocean, .ref q_trees, .ref q_found, .ref q_images, .ref q_search, .ref q_stories, .ref q_signs, .ref q_calendar, .ref q_draft, .int s_yearOfNow])), (q_found, .inr (2, [.ref q_found_books, .ref q_found_sheets, .ref q_found_known, .ref q_found_weights, .int s_found_dugMarshes, .int s_found_kept])), (q_stories, .inr (8, [.ref q_found, .ref q_stories_chances, .ref q_stories_behind])), (q_stories_behind, .inl (cA 2, 5, .inr (.inl s_stories_behind))), (q_found_weights, .inl (cA 2, 5, .inr (.inl s_found_weights))), (q_stories_chances, .inl (cA 5, 5, .inr (.inr (.inr (.inr (gro 5 r_stories_chances))))))]
abbrev w_X11_dug (a0 : Nat) (q_found : Nat) (q_stories : Nat) (q_stories_behind : Nat) (q_found_weights : Nat) (q_stories_chances : Nat) (q_text : Nat) (q_ocean : Nat) (q_trees : Nat) (q_images : Nat) (q_search : Nat) (q_signs : Nat) (q_calendar : Nat) (q_draft : Nat) (q_found_books : Nat) (q_found_sheets : Nat) (q_found_known : Nat) (r_stories_chances : Nat → Nat) (cA : Nat → ClassId) (s_yearOfNow : Int32) (s_found_dugMarshes : Int32) (s_found_kept : Int32) (s_stories_behind : Nat → Int64) (s_found_weights : Nat → Int64) (s_stories_chances : Nat → Nat → Int32) : va_W := [(a0, .inr (11, [.ref q_text, .ref q_ocean, .ref q_trees, .ref q_found, .ref q_images, .ref q_search, .ref q_stories, .ref q_signs, .ref q_calendar, .ref q_draft, .int s_yearOfNow])), (q_found, .inr (2, [.ref q_found_books, .ref q_found_sheets, .ref q_found_known, .ref q_found_weights, .int s_found_dugMarshes, .int s_found_kept])), (q_stories, .inr (8, [.ref q_found, .ref q_stories_chances, .ref q_stories_behind])), (q_stories_behind, .inl (cA 2, 5, .inr (.inl s_stories_behind))), (q_found_weights, .inl (cA 2, 5, .inr (.inl s_found_weights))), (q_stories_chances, .inl (cA 5, 5, .inr (.inr (.inr (.inr (gro 5 r_stories_chances))))))] ++ grw 5 r_stories_chances (cA 1) 6 s_stories_chances
theorem hn_X11_dug_X11 : ∀ w ∈ u_ws RX11 TX11 11, w ∈ wsX11_dug := by decide +kernel
theorem hw_X11_dug_f33 : Cond.fieldLink RX11 33 "OrphanWave" "found" "LOrphanWave$Findings;" ∈ wsX11_dug := by decide +kernel
theorem hw_X11_dug_f59 : Cond.fieldLink RX11 59 "OrphanWave" "stories" "LOrphanWave$Stories;" ∈ wsX11_dug := by decide +kernel

def f_X11_dug (x1 : Int32) (x2 : Int32) (s_found_dugMarshes : Int32) (s_stories_behind : Nat → Int64) (s_found_weights : Nat → Int64) (s_stories_chances : Nat → Nat → Int32) : Option ((Int32) × (Int32) × (Nat → Int64) × (Nat → Int64)) :=
  pcl (f_X11_isMarsh x1) (fun r_1 => (
  pbr (r_1 = 0)
    (some ((-1 : Int32), s_found_dugMarshes, s_stories_behind, s_found_weights))
    (pcl (f_X11_isBit x2) (fun r_4 => (
    pbr (r_4 = 0)
      (some ((-1 : Int32), s_found_dugMarshes, s_stories_behind, s_found_weights))
      (pcl (f_X2_isDug x1 s_found_dugMarshes) (fun r_7 => (
      pbr (r_7 = 0)
        (pcl (f_X8_weigh x1 x2 s_found_weights s_stories_behind s_stories_chances) (fun (r_10, behind_11) => (
        pbr (r_10 = (-1 : Int32))
          (pcl (f_X8_settle x1 s_found_dugMarshes behind_11 s_found_weights) (fun (found_dugMarshes_14, found_weights_15) => (
          pcl (f_X2_dugCount found_dugMarshes_14) (fun r_17 => (
          some (r_17, found_dugMarshes_14, behind_11, found_weights_15))))))
          (some (r_10, s_found_dugMarshes, behind_11, s_found_weights)))))
        (some ((-2 : Int32), s_found_dugMarshes, s_stories_behind, s_found_weights))))))))))

set_option maxRecDepth 100000 in
set_option maxHeartbeats 4000000 in
theorem ct_X11_dug (l : Launch) (D : va_G) (cA : Nat → ClassId) (x1 : Int32) (x2 : Int32) (a0 : Nat) (q_found : Nat) (q_stories : Nat) (q_stories_behind : Nat) (q_found_weights : Nat) (q_stories_chances : Nat) (q_text : Nat) (q_ocean : Nat) (q_trees : Nat) (q_images : Nat) (q_search : Nat) (q_signs : Nat) (q_calendar : Nat) (q_draft : Nat) (q_found_books : Nat) (q_found_sheets : Nat) (q_found_known : Nat) (r_stories_chances : Nat → Nat) (s_yearOfNow : Int32) (s_found_dugMarshes : Int32) (s_found_kept : Int32) (s_stories_behind : Nat → Int64) (s_found_weights : Nat → Int64) (s_stories_chances : Nat → Nat → Int32) (o_r : Int32) (o_found_dugMarshes : Int32) (o_stories_behind : Nat → Int64) (o_found_weights : Nat → Int64) (hf : f_X11_dug x1 x2 s_found_dugMarshes s_stories_behind s_found_weights s_stories_chances = some (o_r, o_found_dugMarshes, o_stories_behind, o_found_weights)) : CT l yX11_dug wsX11_dug rm_X11_dug D cA [.ref a0, .int x1, .int x2] (w_X11_dug a0 q_found q_stories q_stories_behind q_found_weights q_stories_chances q_text q_ocean q_trees q_images q_search q_signs q_calendar q_draft q_found_books q_found_sheets q_found_known r_stories_chances cA s_yearOfNow s_found_dugMarshes s_found_kept s_stories_behind s_found_weights s_stories_chances) (w_X11_dug a0 q_found q_stories q_stories_behind q_found_weights q_stories_chances q_text q_ocean q_trees q_images q_search q_signs q_calendar q_draft q_found_books q_found_sheets q_found_known r_stories_chances cA s_yearOfNow o_found_dugMarshes s_found_kept o_stories_behind o_found_weights s_stories_chances) (some (.int o_r)) := by
  refine CT.ofW (cc := cX11_dug) (maxL := 4) (ret := (some .int)) (by decide +kernel) rfl (Nat.le_of_ble_eq_true rfl) ?_
  intro p e s m below meth c A C0 hA hP hD ls hl
  have C0 : MX p s m [.ref a0, .int x1, .int x2].toArray meth c cX11_dug 4 wsX11_dug RX11 (some .int) D cA := C0
  have hl : lv_has ls 4 [(0, .ref a0), (1, .int x1), (2, .int x2)] := hl
  obtain ⟨hx, hb, hml, hown, hts, hr, hlocks, hX⟩ := id C0
  have hK := hX.1
  have hN := hX.2
  have hS : va_S A s.heap s.heap [] := va_S.rf
  unfold f_X11_dug at hf
  refine lv_iload_n hx hb dX11_dug_0 rfl (lv_at hl 1 rfl) ?_
  obtain ⟨r_1, hc_2, hf⟩ := pcl_e hf
  refine m_callS (As := [.int x1]) (rest := []) ⟨hx, hb, hml, hown, hts⟩ hX (ct_X11_isMarsh l D cA x1 r_1 hc_2) (va_cwS 1 hts gX11_dug_X11_isMarsh rfl rfl rfl (by decide +kernel) ⟨Nat.le_of_ble_eq_true rfl, Nat.le_of_ble_eq_true rfl⟩) hP hD hS hA [] (by decide) rfl rfl (WS' := (w_X11_dug a0 q_found q_stories q_stories_behind q_found_weights q_stories_chances q_text q_ocean q_trees q_images q_search q_signs q_calendar q_draft q_found_books q_found_sheets q_found_known r_stories_chances cA s_yearOfNow s_found_dugMarshes s_found_kept s_stories_behind s_found_weights s_stories_chances)) rfl rfl hl.1 rfl (st' := [.int r_1]) rfl (Nat.le_of_ble_eq_true rfl) ⟨Nat.zero_le _, Nat.zero_le _⟩ dX11_dug_1 (fun H locs hP hD hS => ?_)
  refine lv_if_eq (tgt := 14) hx hb dX11_dug_4 (by decide) (fun c_3 => ?_) (fun c_3 => ?_)
  · have hf := pbr_t c_3 hf
    refine lv_iconst (v := (-1 : Int32)) hx hb dX11_dug_14 (by decide) ?_
    cases hf
    exact m_iret hx hb hr hlocks hP hS dX11_dug_15
  have hf := pbr_f c_3 hf
  refine lv_iload_n hx hb dX11_dug_7 rfl (lv_at hl 2 rfl) ?_
  obtain ⟨r_4, hc_5, hf⟩ := pcl_e hf
  refine m_callS (As := [.int x2]) (rest := []) ⟨hx, hb, hml, hown, hts⟩ hX (ct_X11_isBit l D cA x2 r_4 hc_5) (va_cwS 1 hts gX11_dug_X11_isBit rfl rfl rfl (by decide +kernel) ⟨Nat.le_of_ble_eq_true rfl, Nat.le_of_ble_eq_true rfl⟩) hP hD hS hA [] (by decide) rfl rfl (WS' := (w_X11_dug a0 q_found q_stories q_stories_behind q_found_weights q_stories_chances q_text q_ocean q_trees q_images q_search q_signs q_calendar q_draft q_found_books q_found_sheets q_found_known r_stories_chances cA s_yearOfNow s_found_dugMarshes s_found_kept s_stories_behind s_found_weights s_stories_chances)) rfl rfl hl.1 rfl (st' := [.int r_4]) rfl (Nat.le_of_ble_eq_true rfl) ⟨Nat.zero_le _, Nat.zero_le _⟩ dX11_dug_8 (fun H locs hP hD hS => ?_)
  refine lv_if_ne (tgt := 16) hx hb dX11_dug_11 (by decide) (fun c_6 => ?_) (fun c_6 => ?_)
  · have hf := pbr_f c_6 hf
    refine lv_aload_n hx hb dX11_dug_16 rfl (lv_at hl 0 rfl) ?_
    refine va_get (D := D) (ci := 11) (v := .ref q_found) (C := RX11) (T := TX11) (N := 11) hx hb hts hn_X11_dug_X11 hown hK hP 0 rfl rfl 3 (by decide) (hts _ hw_X11_dug_f33) (fun _ h9 => h9) rfl dX11_dug_17 ?_
    refine lv_iload_n hx hb dX11_dug_20 rfl (lv_at hl 1 rfl) ?_
    obtain ⟨r_7, hc_8, hf⟩ := pcl_e hf
    refine m_callV (As := [.int x1]) (rest := []) ⟨hx, hb, hml, hown, hts⟩ hX (ct_X2_isDug l D cA x1 q_found q_found_books q_found_sheets q_found_known q_found_weights s_found_dugMarshes s_found_kept r_7 hc_8) (cwV 1 hts gX11_dug_X2_isDug rfl rfl rfl (by decide +kernel) ⟨Nat.le_of_ble_eq_true rfl, Nat.le_of_ble_eq_true rfl⟩) hP hD hS hA [1] (by decide) rfl rfl (WS' := (w_X11_dug a0 q_found q_stories q_stories_behind q_found_weights q_stories_chances q_text q_ocean q_trees q_images q_search q_signs q_calendar q_draft q_found_books q_found_sheets q_found_known r_stories_chances cA s_yearOfNow s_found_dugMarshes s_found_kept s_stories_behind s_found_weights s_stories_chances)) rfl 1 2 rfl rfl rfl hl.1 rfl (st' := [.int r_7]) rfl (Nat.le_of_ble_eq_true rfl) ⟨Nat.zero_le _, Nat.zero_le _⟩ dX11_dug_21 (fun H locs hP hD hS => ?_)
    refine lv_if_eq (tgt := 30) hx hb dX11_dug_24 (by decide) (fun c_9 => ?_) (fun c_9 => ?_)
    · have hf := pbr_t c_9 hf
      refine lv_aload_n hx hb dX11_dug_30 rfl (lv_at hl 0 rfl) ?_
      refine va_get (D := D) (ci := 11) (v := .ref q_stories) (C := RX11) (T := TX11) (N := 11) hx hb hts hn_X11_dug_X11 hown hK hP 0 rfl rfl 6 (by decide) (hts _ hw_X11_dug_f59) (fun _ h9 => h9) rfl dX11_dug_31 ?_
      refine lv_iload_n hx hb dX11_dug_34 rfl (lv_at hl 1 rfl) ?_
      refine lv_iload_n hx hb dX11_dug_35 rfl (lv_at hl 2 rfl) ?_
      obtain ⟨⟨r_10, behind_11⟩, hc_12, hf⟩ := pcl_e hf
      refine m_callV (As := [.int x1, .int x2]) (rest := []) ⟨hx, hb, hml, hown, hts⟩ hX (ct_X8_weigh l D cA x1 x2 q_stories q_found q_found_weights q_stories_behind q_stories_chances q_found_books q_found_sheets q_found_known r_stories_chances s_found_dugMarshes s_found_kept s_found_weights s_stories_behind s_stories_chances r_10 behind_11 hc_12) (cwV 2 hts gX11_dug_X8_weigh rfl rfl rfl (by decide +kernel) ⟨Nat.le_of_ble_eq_true rfl, Nat.le_of_ble_eq_true rfl⟩) hP hD hS hA [2, 1, 4, 3, 5, 6, 7, 8, 9, 10] (by decide) rfl rfl (WS' := (w_X11_dug a0 q_found q_stories q_stories_behind q_found_weights q_stories_chances q_text q_ocean q_trees q_images q_search q_signs q_calendar q_draft q_found_books q_found_sheets q_found_known r_stories_chances cA s_yearOfNow s_found_dugMarshes s_found_kept behind_11 s_found_weights s_stories_chances)) rfl 2 8 rfl rfl rfl hl.1 rfl (st' := [.int r_10]) rfl (Nat.le_of_ble_eq_true rfl) ⟨Nat.zero_le _, Nat.zero_le _⟩ dX11_dug_36 (fun H locs hP hD hS => ?_)
      refine lv_istore_n (lv' := [(3, .int r_10), (0, .ref a0), (1, .int x1), (2, .int x2)]) hx hb dX11_dug_39 rfl hl (by decide) rfl (fun ls hl => ?_)
      refine lv_iload_n hx hb dX11_dug_40 rfl (lv_at hl 0 rfl) ?_
      refine lv_iconst (v := (-1 : Int32)) hx hb dX11_dug_41 (by decide) ?_
      refine lv_icmp_eq (tgt := 47) hx hb dX11_dug_42 (by decide) (fun c_13 => ?_) (fun c_13 => ?_)
      · have hf := pbr_t c_13 hf
        refine lv_aload_n hx hb dX11_dug_47 rfl (lv_at hl 1 rfl) ?_
        refine va_get (D := D) (ci := 11) (v := .ref q_stories) (C := RX11) (T := TX11) (N := 11) hx hb hts hn_X11_dug_X11 hown hK hP 0 rfl rfl 6 (by decide) (hts _ hw_X11_dug_f59) (fun _ h9 => h9) rfl dX11_dug_48 ?_
        refine lv_iload_n hx hb dX11_dug_51 rfl (lv_at hl 2 rfl) ?_
        obtain ⟨⟨found_dugMarshes_14, found_weights_15⟩, hc_16, hf⟩ := pcl_e hf
        refine m_callV (As := [.int x1]) (rest := []) ⟨hx, hb, hml, hown, hts⟩ hX (ct_X8_settle l D cA x1 q_stories q_found q_stories_behind q_found_weights q_stories_chances q_found_books q_found_sheets q_found_known s_found_dugMarshes s_found_kept behind_11 s_found_weights found_dugMarshes_14 found_weights_15 hc_16) (cwV 1 hts gX11_dug_X8_settle rfl rfl rfl (by decide +kernel) ⟨Nat.le_of_ble_eq_true rfl, Nat.le_of_ble_eq_true rfl⟩) hP hD hS hA [2, 1, 3, 4] (by decide) rfl rfl (WS' := (w_X11_dug a0 q_found q_stories q_stories_behind q_found_weights q_stories_chances q_text q_ocean q_trees q_images q_search q_signs q_calendar q_draft q_found_books q_found_sheets q_found_known r_stories_chances cA s_yearOfNow found_dugMarshes_14 s_found_kept behind_11 found_weights_15 s_stories_chances)) rfl 2 8 rfl rfl rfl hl.1 rfl (st' := []) rfl (Nat.le_of_ble_eq_true rfl) ⟨Nat.zero_le _, Nat.zero_le _⟩ dX11_dug_52 (fun H locs hP hD hS => ?_)
        refine lv_aload_n hx hb dX11_dug_55 rfl (lv_at hl 1 rfl) ?_
        refine va_get (D := D) (ci := 11) (v := .ref q_found) (C := RX11) (T := TX11) (N := 11) hx hb hts hn_X11_dug_X11 hown hK hP 0 rfl rfl 3 (by decide) (hts _ hw_X11_dug_f33) (fun _ h9 => h9) rfl dX11_dug_56 ?_
        obtain ⟨r_17, hc_18, hf⟩ := pcl_e hf
        refine m_callV (As := []) (rest := []) ⟨hx, hb, hml, hown, hts⟩ hX (ct_X2_dugCount l D cA q_found q_found_books q_found_sheets q_found_known q_found_weights found_dugMarshes_14 s_found_kept r_17 hc_18) (cwV 0 hts gX11_dug_X2_dugCount rfl rfl rfl (by decide +kernel) ⟨Nat.le_of_ble_eq_true rfl, Nat.le_of_ble_eq_true rfl⟩) hP hD hS hA [1] (by decide) rfl rfl (WS' := (w_X11_dug a0 q_found q_stories q_stories_behind q_found_weights q_stories_chances q_text q_ocean q_trees q_images q_search q_signs q_calendar q_draft q_found_books q_found_sheets q_found_known r_stories_chances cA s_yearOfNow found_dugMarshes_14 s_found_kept behind_11 found_weights_15 s_stories_chances)) rfl 1 2 rfl rfl rfl hl.1 rfl (st' := [.int r_17]) rfl (Nat.le_of_ble_eq_true rfl) ⟨Nat.zero_le _, Nat.zero_le _⟩ dX11_dug_59 (fun H locs hP hD hS => ?_)
        cases hf
        exact m_iret hx hb hr hlocks hP hS dX11_dug_62
      have hf := pbr_f c_13 hf
      refine lv_iload_n hx hb dX11_dug_45 rfl (lv_at hl 0 rfl) ?_
      cases hf
      exact m_iret hx hb hr hlocks hP hS dX11_dug_46
    have hf := pbr_f c_9 hf
    refine lv_bipush (v := (-2 : Int32)) hx hb dX11_dug_27 (by decide) ?_
    cases hf
    exact m_iret hx hb hr hlocks hP hS dX11_dug_29
  have hf := pbr_t c_6 hf
  refine lv_iconst (v := (-1 : Int32)) hx hb dX11_dug_14 (by decide) ?_
  cases hf
  exact m_iret hx hb hr hlocks hP hS dX11_dug_15

/-! ===== OrphanWave.believed(II)J ===== -/
abbrev rm_X11_believed : Room := { frames := 2, cells := 0, slots := 0, locals := 56 }
abbrev w_X11_believed (a0 : Nat) (q_stories : Nat) (q_found : Nat) (q_found_weights : Nat) (q_text : Nat) (q_ocean : Nat) (q_trees : Nat) (q_images : Nat) (q_search : Nat) (q_signs : Nat) (q_calendar : Nat) (q_draft : Nat) (q_stories_chances : Nat) (q_stories_behind : Nat) (q_found_books : Nat) (q_found_sheets : Nat) (q_found_known : Nat) (cA : Nat → ClassId) (s_yearOfNow : Int32) (s_found_dugMarshes : Int32) (s_found_kept : Int32) (s_found_weights : Nat → Int64) : va_W := [(a0, .inr (11, [.ref q_text, .ref q_ocean, .ref q_trees, .ref q_found, .ref q_images, .ref q_search, .ref q_stories, .ref q_signs, .ref q_calendar, .ref q_draft, .int s_yearOfNow])), (q_stories, .inr (8, [.ref q_found, .ref q_stories_chances, .ref q_stories_behind])), (q_found, .inr (2, [.ref q_found_books, .ref q_found_sheets, .ref q_found_known, .ref q_found_weights, .int s_found_dugMarshes, .int s_found_kept])), (q_found_weights, .inl (cA 2, 5, .inr (.inl s_found_weights)))]
theorem hn_X11_believed_X11 : ∀ w ∈ u_ws RX11 TX11 11, w ∈ wsX11_believed := by decide +kernel
theorem hw_X11_believed_c311 : Cond.constantLong RX11 311 (-1) ∈ wsX11_believed := by decide +kernel
theorem hw_X11_believed_f59 : Cond.fieldLink RX11 59 "OrphanWave" "stories" "LOrphanWave$Stories;" ∈ wsX11_believed := by decide +kernel

def f_X11_believed (x1 : Int32) (x2 : Int32) (s_found_weights : Nat → Int64) : Option ((Int64)) :=
  pcl (f_X11_isStory x1) (fun r_1 => (
  pbr (r_1 = 0)
    (some ((-1 : Int64)))
    (pcl (f_X11_isBit x2) (fun r_4 => (
    pbr (r_4 = 0)
      (some ((-1 : Int64)))
      (pcl (f_X8_part x1 x2 s_found_weights) (fun r_7 => (
      some (r_7)))))))))

set_option maxRecDepth 100000 in
set_option maxHeartbeats 4000000 in
theorem ct_X11_believed (l : Launch) (D : va_G) (cA : Nat → ClassId) (x1 : Int32) (x2 : Int32) (a0 : Nat) (q_stories : Nat) (q_found : Nat) (q_found_weights : Nat) (q_text : Nat) (q_ocean : Nat) (q_trees : Nat) (q_images : Nat) (q_search : Nat) (q_signs : Nat) (q_calendar : Nat) (q_draft : Nat) (q_stories_chances : Nat) (q_stories_behind : Nat) (q_found_books : Nat) (q_found_sheets : Nat) (q_found_known : Nat) (s_yearOfNow : Int32) (s_found_dugMarshes : Int32) (s_found_kept : Int32) (s_found_weights : Nat → Int64) (o_r : Int64) (hf : f_X11_believed x1 x2 s_found_weights = some o_r) : CT l yX11_believed wsX11_believed rm_X11_believed D cA [.ref a0, .int x1, .int x2] (w_X11_believed a0 q_stories q_found q_found_weights q_text q_ocean q_trees q_images q_search q_signs q_calendar q_draft q_stories_chances q_stories_behind q_found_books q_found_sheets q_found_known cA s_yearOfNow s_found_dugMarshes s_found_kept s_found_weights) (w_X11_believed a0 q_stories q_found q_found_weights q_text q_ocean q_trees q_images q_search q_signs q_calendar q_draft q_stories_chances q_stories_behind q_found_books q_found_sheets q_found_known cA s_yearOfNow s_found_dugMarshes s_found_kept s_found_weights) (some (.long o_r)) := by
  refine CT.ofW (cc := cX11_believed) (maxL := 3) (ret := (some .long)) (by decide +kernel) rfl (Nat.le_of_ble_eq_true rfl) ?_
  intro p e s m below meth c A C0 hA hP hD ls hl
  have C0 : MX p s m [.ref a0, .int x1, .int x2].toArray meth c cX11_believed 3 wsX11_believed RX11 (some .long) D cA := C0
  have hl : lv_has ls 3 [(0, .ref a0), (1, .int x1), (2, .int x2)] := hl
  obtain ⟨hx, hb, hml, hown, hts, hr, hlocks, hX⟩ := id C0
  have hK := hX.1
  have hN := hX.2
  have hS : va_S A s.heap s.heap [] := va_S.rf
  unfold f_X11_believed at hf
  refine lv_iload_n hx hb dX11_believed_0 rfl (lv_at hl 1 rfl) ?_
  obtain ⟨r_1, hc_2, hf⟩ := pcl_e hf
  refine m_callS (As := [.int x1]) (rest := []) ⟨hx, hb, hml, hown, hts⟩ hX (ct_X11_isStory l D cA x1 r_1 hc_2) (va_cwS 1 hts gX11_believed_X11_isStory rfl rfl rfl (by decide +kernel) ⟨Nat.le_of_ble_eq_true rfl, Nat.le_of_ble_eq_true rfl⟩) hP hD hS hA [] (by decide) rfl rfl (WS' := (w_X11_believed a0 q_stories q_found q_found_weights q_text q_ocean q_trees q_images q_search q_signs q_calendar q_draft q_stories_chances q_stories_behind q_found_books q_found_sheets q_found_known cA s_yearOfNow s_found_dugMarshes s_found_kept s_found_weights)) rfl rfl hl.1 rfl (st' := [.int r_1]) rfl (Nat.le_of_ble_eq_true rfl) ⟨Nat.zero_le _, Nat.zero_le _⟩ dX11_believed_1 (fun H locs hP hD hS => ?_)
  refine lv_if_eq (tgt := 14) hx hb dX11_believed_4 (by decide) (fun c_3 => ?_) (fun c_3 => ?_)
  · have hf := pbr_t c_3 hf
    refine lv_ldc2 (v := (-1 : Int64)) hx hb hown (hts _ hw_X11_believed_c311) dX11_believed_14 ?_
    cases hf
    exact m_lret hx hb hr hlocks hP hS dX11_believed_17
  have hf := pbr_f c_3 hf
  refine lv_iload_n hx hb dX11_believed_7 rfl (lv_at hl 2 rfl) ?_
  obtain ⟨r_4, hc_5, hf⟩ := pcl_e hf
  refine m_callS (As := [.int x2]) (rest := []) ⟨hx, hb, hml, hown, hts⟩ hX (ct_X11_isBit l D cA x2 r_4 hc_5) (va_cwS 1 hts gX11_believed_X11_isBit rfl rfl rfl (by decide +kernel) ⟨Nat.le_of_ble_eq_true rfl, Nat.le_of_ble_eq_true rfl⟩) hP hD hS hA [] (by decide) rfl rfl (WS' := (w_X11_believed a0 q_stories q_found q_found_weights q_text q_ocean q_trees q_images q_search q_signs q_calendar q_draft q_stories_chances q_stories_behind q_found_books q_found_sheets q_found_known cA s_yearOfNow s_found_dugMarshes s_found_kept s_found_weights)) rfl rfl hl.1 rfl (st' := [.int r_4]) rfl (Nat.le_of_ble_eq_true rfl) ⟨Nat.zero_le _, Nat.zero_le _⟩ dX11_believed_8 (fun H locs hP hD hS => ?_)
  refine lv_if_ne (tgt := 18) hx hb dX11_believed_11 (by decide) (fun c_6 => ?_) (fun c_6 => ?_)
  · have hf := pbr_f c_6 hf
    refine lv_aload_n hx hb dX11_believed_18 rfl (lv_at hl 0 rfl) ?_
    refine va_get (D := D) (ci := 11) (v := .ref q_stories) (C := RX11) (T := TX11) (N := 11) hx hb hts hn_X11_believed_X11 hown hK hP 0 rfl rfl 6 (by decide) (hts _ hw_X11_believed_f59) (fun _ h9 => h9) rfl dX11_believed_19 ?_
    refine lv_iload_n hx hb dX11_believed_22 rfl (lv_at hl 1 rfl) ?_
    refine lv_iload_n hx hb dX11_believed_23 rfl (lv_at hl 2 rfl) ?_
    obtain ⟨r_7, hc_8, hf⟩ := pcl_e hf
    refine m_callV (As := [.int x1, .int x2]) (rest := []) ⟨hx, hb, hml, hown, hts⟩ hX (ct_X8_part l D cA x1 x2 q_stories q_found q_found_weights q_stories_chances q_stories_behind q_found_books q_found_sheets q_found_known s_found_dugMarshes s_found_kept s_found_weights r_7 hc_8) (cwV 2 hts gX11_believed_X8_part rfl rfl rfl (by decide +kernel) ⟨Nat.le_of_ble_eq_true rfl, Nat.le_of_ble_eq_true rfl⟩) hP hD hS hA [1, 2, 3] (by decide) rfl rfl (WS' := (w_X11_believed a0 q_stories q_found q_found_weights q_text q_ocean q_trees q_images q_search q_signs q_calendar q_draft q_stories_chances q_stories_behind q_found_books q_found_sheets q_found_known cA s_yearOfNow s_found_dugMarshes s_found_kept s_found_weights)) rfl 1 8 rfl rfl rfl hl.1 rfl (st' := [.long r_7]) rfl (Nat.le_of_ble_eq_true rfl) ⟨Nat.zero_le _, Nat.zero_le _⟩ dX11_believed_24 (fun H locs hP hD hS => ?_)
    cases hf
    exact m_lret hx hb hr hlocks hP hS dX11_believed_27
  have hf := pbr_t c_6 hf
  refine lv_ldc2 (v := (-1 : Int64)) hx hb hown (hts _ hw_X11_believed_c311) dX11_believed_14 ?_
  cases hf
  exact m_lret hx hb hr hlocks hP hS dX11_believed_17

/-! ===== OrphanWave.dig()I ===== -/
abbrev rm_X11_dig : Room := { frames := 3, cells := 0, slots := 0, locals := 75 }
abbrev wx_X11_dig (a0 : Nat) (q_stories : Nat) (q_found : Nat) (q_found_weights : Nat) (q_stories_chances : Nat) (q_text : Nat) (q_ocean : Nat) (q_trees : Nat) (q_images : Nat) (q_search : Nat) (q_signs : Nat) (q_calendar : Nat) (q_draft : Nat) (q_stories_behind : Nat) (q_found_books : Nat) (q_found_sheets : Nat) (q_found_known : Nat) (r_stories_chances : Nat → Nat) (cA : Nat → ClassId) (s_yearOfNow : Int32) (s_found_dugMarshes : Int32) (s_found_kept : Int32) (s_found_weights : Nat → Int64) (s_stories_chances : Nat → Nat → Int32) : va_W := [(a0, .inr (11, [.ref q_text, .ref q_ocean, .ref q_trees, .ref q_found, .ref q_images, .ref q_search, .ref q_stories, .ref q_signs, .ref q_calendar, .ref q_draft, .int s_yearOfNow])), (q_stories, .inr (8, [.ref q_found, .ref q_stories_chances, .ref q_stories_behind])), (q_found, .inr (2, [.ref q_found_books, .ref q_found_sheets, .ref q_found_known, .ref q_found_weights, .int s_found_dugMarshes, .int s_found_kept])), (q_found_weights, .inl (cA 2, 5, .inr (.inl s_found_weights))), (q_stories_chances, .inl (cA 5, 5, .inr (.inr (.inr (.inr (gro 5 r_stories_chances))))))]
abbrev w_X11_dig (a0 : Nat) (q_stories : Nat) (q_found : Nat) (q_found_weights : Nat) (q_stories_chances : Nat) (q_text : Nat) (q_ocean : Nat) (q_trees : Nat) (q_images : Nat) (q_search : Nat) (q_signs : Nat) (q_calendar : Nat) (q_draft : Nat) (q_stories_behind : Nat) (q_found_books : Nat) (q_found_sheets : Nat) (q_found_known : Nat) (r_stories_chances : Nat → Nat) (cA : Nat → ClassId) (s_yearOfNow : Int32) (s_found_dugMarshes : Int32) (s_found_kept : Int32) (s_found_weights : Nat → Int64) (s_stories_chances : Nat → Nat → Int32) : va_W := [(a0, .inr (11, [.ref q_text, .ref q_ocean, .ref q_trees, .ref q_found, .ref q_images, .ref q_search, .ref q_stories, .ref q_signs, .ref q_calendar, .ref q_draft, .int s_yearOfNow])), (q_stories, .inr (8, [.ref q_found, .ref q_stories_chances, .ref q_stories_behind])), (q_found, .inr (2, [.ref q_found_books, .ref q_found_sheets, .ref q_found_known, .ref q_found_weights, .int s_found_dugMarshes, .int s_found_kept])), (q_found_weights, .inl (cA 2, 5, .inr (.inl s_found_weights))), (q_stories_chances, .inl (cA 5, 5, .inr (.inr (.inr (.inr (gro 5 r_stories_chances))))))] ++ grw 5 r_stories_chances (cA 1) 6 s_stories_chances
theorem hn_X11_dig_X11 : ∀ w ∈ u_ws RX11 TX11 11, w ∈ wsX11_dig := by decide +kernel
theorem hw_X11_dig_f59 : Cond.fieldLink RX11 59 "OrphanWave" "stories" "LOrphanWave$Stories;" ∈ wsX11_dig := by decide +kernel

def f_X11_dig (s_found_dugMarshes : Int32) (s_found_weights : Nat → Int64) (s_stories_chances : Nat → Nat → Int32) : Option ((Int32)) :=
  pcl (f_X8_bestMarsh s_found_dugMarshes s_found_weights s_stories_chances) (fun r_1 => (
  some (r_1)))

set_option maxRecDepth 100000 in
set_option maxHeartbeats 4000000 in
theorem ct_X11_dig (l : Launch) (D : va_G) (cA : Nat → ClassId) (a0 : Nat) (q_stories : Nat) (q_found : Nat) (q_found_weights : Nat) (q_stories_chances : Nat) (q_text : Nat) (q_ocean : Nat) (q_trees : Nat) (q_images : Nat) (q_search : Nat) (q_signs : Nat) (q_calendar : Nat) (q_draft : Nat) (q_stories_behind : Nat) (q_found_books : Nat) (q_found_sheets : Nat) (q_found_known : Nat) (r_stories_chances : Nat → Nat) (s_yearOfNow : Int32) (s_found_dugMarshes : Int32) (s_found_kept : Int32) (s_found_weights : Nat → Int64) (s_stories_chances : Nat → Nat → Int32) (o_r : Int32) (hf : f_X11_dig s_found_dugMarshes s_found_weights s_stories_chances = some o_r) : CT l yX11_dig wsX11_dig rm_X11_dig D cA [.ref a0] (w_X11_dig a0 q_stories q_found q_found_weights q_stories_chances q_text q_ocean q_trees q_images q_search q_signs q_calendar q_draft q_stories_behind q_found_books q_found_sheets q_found_known r_stories_chances cA s_yearOfNow s_found_dugMarshes s_found_kept s_found_weights s_stories_chances) (w_X11_dig a0 q_stories q_found q_found_weights q_stories_chances q_text q_ocean q_trees q_images q_search q_signs q_calendar q_draft q_stories_behind q_found_books q_found_sheets q_found_known r_stories_chances cA s_yearOfNow s_found_dugMarshes s_found_kept s_found_weights s_stories_chances) (some (.int o_r)) := by
  refine CT.ofW (cc := cX11_dig) (maxL := 1) (ret := (some .int)) (by decide +kernel) rfl (Nat.le_of_ble_eq_true rfl) ?_
  intro p e s m below meth c A C0 hA hP hD ls hl
  have C0 : MX p s m [.ref a0].toArray meth c cX11_dig 1 wsX11_dig RX11 (some .int) D cA := C0
  have hl : lv_has ls 1 [(0, .ref a0)] := hl
  obtain ⟨hx, hb, hml, hown, hts, hr, hlocks, hX⟩ := id C0
  have hK := hX.1
  have hN := hX.2
  have hS : va_S A s.heap s.heap [] := va_S.rf
  unfold f_X11_dig at hf
  refine lv_aload_n hx hb dX11_dig_0 rfl (lv_at hl 0 rfl) ?_
  refine va_get (D := D) (ci := 11) (v := .ref q_stories) (C := RX11) (T := TX11) (N := 11) hx hb hts hn_X11_dig_X11 hown hK hP 0 rfl rfl 6 (by decide) (hts _ hw_X11_dig_f59) (fun _ h9 => h9) rfl dX11_dig_1 ?_
  obtain ⟨r_1, hc_2, hf⟩ := pcl_e hf
  refine m_callV (As := []) (rest := []) ⟨hx, hb, hml, hown, hts⟩ hX (ct_X8_bestMarsh l D cA q_stories q_found q_found_weights q_stories_chances q_stories_behind q_found_books q_found_sheets q_found_known r_stories_chances s_found_dugMarshes s_found_kept s_found_weights s_stories_chances r_1 hc_2) (cwV 0 hts gX11_dig_X8_bestMarsh rfl rfl rfl (by decide +kernel) ⟨Nat.le_of_ble_eq_true rfl, Nat.le_of_ble_eq_true rfl⟩) hP hD hS hA [1, 2, 3, 4, 5, 6, 7, 8, 9] (by decide) rfl rfl (WS' := (w_X11_dig a0 q_stories q_found q_found_weights q_stories_chances q_text q_ocean q_trees q_images q_search q_signs q_calendar q_draft q_stories_behind q_found_books q_found_sheets q_found_known r_stories_chances cA s_yearOfNow s_found_dugMarshes s_found_kept s_found_weights s_stories_chances)) rfl 1 8 rfl rfl rfl hl.1 rfl (st' := [.int r_1]) rfl (Nat.le_of_ble_eq_true rfl) ⟨Nat.zero_le _, Nat.zero_le _⟩ dX11_dig_4 (fun H locs hP hD hS => ?_)
  cases hf
  exact m_iret hx hb hr hlocks hP hS dX11_dig_7

/-! ===== OrphanWave.minutes(III)I ===== -/
abbrev rm_X11_minutes : Room := { frames := 4, cells := 0, slots := 0, locals := 97 }
abbrev w_X11_minutes (a0 : Nat) (q_ocean : Nat) (q_ocean_depths : Nat) (q_ocean_times : Nat) (q_text : Nat) (q_trees : Nat) (q_found : Nat) (q_images : Nat) (q_search : Nat) (q_stories : Nat) (q_signs : Nat) (q_calendar : Nat) (q_draft : Nat) (q_ocean_figures : Nat) (cA : Nat → ClassId) (s_yearOfNow : Int32) (s_ocean_pace : Int32) (s_ocean_fade : Int32) (s_ocean_depths : Nat → Int32) (s_ocean_times : Nat → Int32) : va_W := [(a0, .inr (11, [.ref q_text, .ref q_ocean, .ref q_trees, .ref q_found, .ref q_images, .ref q_search, .ref q_stories, .ref q_signs, .ref q_calendar, .ref q_draft, .int s_yearOfNow])), (q_ocean, .inr (4, [.ref q_ocean_depths, .ref q_ocean_figures, .ref q_ocean_times, .int s_ocean_pace, .int s_ocean_fade])), (q_ocean_depths, .inl (cA 1, 48, .inl s_ocean_depths)), (q_ocean_times, .inl (cA 1, 48, .inl s_ocean_times))]
theorem hn_X11_minutes_X11 : ∀ w ∈ u_ws RX11 TX11 11, w ∈ wsX11_minutes := by decide +kernel
theorem hw_X11_minutes_f19 : Cond.fieldLink RX11 19 "OrphanWave" "ocean" "LOrphanWave$Ocean;" ∈ wsX11_minutes := by decide +kernel
theorem hw_X11_minutes_c341 : Cond.constant RX11 341 (16777215) ∈ wsX11_minutes := by decide +kernel

def f_X11_minutes (x1 : Int32) (x2 : Int32) (x3 : Int32) (s_ocean_pace : Int32) (s_ocean_depths : Nat → Int32) (s_ocean_times : Nat → Int32) : Option ((Int32) × (Nat → Int32)) :=
  pcl (f_X4_isSea x1 s_ocean_depths) (fun r_1 => (
  pbr (r_1 = 0)
    (some ((-1 : Int32), s_ocean_times))
    (pcl (f_X11_within x2 (0 : Int32) (16777215 : Int32)) (fun r_4 => (
    pbr (r_4 = 0)
      (some ((-1 : Int32), s_ocean_times))
      (pcl (f_X11_within x3 (0 : Int32) (16777215 : Int32)) (fun r_7 => (
      pbr (r_7 = 0)
        (some ((-1 : Int32), s_ocean_times))
        (pcl (f_X4_soonest x1 ((x3.toInt64 <<< ((24 : Int32).toInt64 &&& 63)) ||| x2.toInt64) s_ocean_pace s_ocean_times s_ocean_depths) (fun (r_10, times_11) => (
        some (r_10, times_11))))))))))))

set_option maxRecDepth 100000 in
set_option maxHeartbeats 4000000 in
theorem ct_X11_minutes (l : Launch) (D : va_G) (cA : Nat → ClassId) (x1 : Int32) (x2 : Int32) (x3 : Int32) (a0 : Nat) (q_ocean : Nat) (q_ocean_depths : Nat) (q_ocean_times : Nat) (q_text : Nat) (q_trees : Nat) (q_found : Nat) (q_images : Nat) (q_search : Nat) (q_stories : Nat) (q_signs : Nat) (q_calendar : Nat) (q_draft : Nat) (q_ocean_figures : Nat) (s_yearOfNow : Int32) (s_ocean_pace : Int32) (s_ocean_fade : Int32) (s_ocean_depths : Nat → Int32) (s_ocean_times : Nat → Int32) (o_r : Int32) (o_ocean_times : Nat → Int32) (hf : f_X11_minutes x1 x2 x3 s_ocean_pace s_ocean_depths s_ocean_times = some (o_r, o_ocean_times)) : CT l yX11_minutes wsX11_minutes rm_X11_minutes D cA [.ref a0, .int x1, .int x2, .int x3] (w_X11_minutes a0 q_ocean q_ocean_depths q_ocean_times q_text q_trees q_found q_images q_search q_stories q_signs q_calendar q_draft q_ocean_figures cA s_yearOfNow s_ocean_pace s_ocean_fade s_ocean_depths s_ocean_times) (w_X11_minutes a0 q_ocean q_ocean_depths q_ocean_times q_text q_trees q_found q_images q_search q_stories q_signs q_calendar q_draft q_ocean_figures cA s_yearOfNow s_ocean_pace s_ocean_fade s_ocean_depths o_ocean_times) (some (.int o_r)) := by
  refine CT.ofW (cc := cX11_minutes) (maxL := 4) (ret := (some .int)) (by decide +kernel) rfl (Nat.le_of_ble_eq_true rfl) ?_
  intro p e s m below meth c A C0 hA hP hD ls hl
  have C0 : MX p s m [.ref a0, .int x1, .int x2, .int x3].toArray meth c cX11_minutes 4 wsX11_minutes RX11 (some .int) D cA := C0
  have hl : lv_has ls 4 [(0, .ref a0), (1, .int x1), (2, .int x2), (3, .int x3)] := hl
  obtain ⟨hx, hb, hml, hown, hts, hr, hlocks, hX⟩ := id C0
  have hK := hX.1
  have hN := hX.2
  have hS : va_S A s.heap s.heap [] := va_S.rf
  unfold f_X11_minutes at hf
  refine lv_aload_n hx hb dX11_minutes_0 rfl (lv_at hl 0 rfl) ?_
  refine va_get (D := D) (ci := 11) (v := .ref q_ocean) (C := RX11) (T := TX11) (N := 11) hx hb hts hn_X11_minutes_X11 hown hK hP 0 rfl rfl 1 (by decide) (hts _ hw_X11_minutes_f19) (fun _ h9 => h9) rfl dX11_minutes_1 ?_
  refine lv_iload_n hx hb dX11_minutes_4 rfl (lv_at hl 1 rfl) ?_
  obtain ⟨r_1, hc_2, hf⟩ := pcl_e hf
  refine m_callV (As := [.int x1]) (rest := []) ⟨hx, hb, hml, hown, hts⟩ hX (ct_X4_isSea l D cA x1 q_ocean q_ocean_depths q_ocean_figures q_ocean_times s_ocean_pace s_ocean_fade s_ocean_depths r_1 hc_2) (cwV 1 hts gX11_minutes_X4_isSea rfl rfl rfl (by decide +kernel) ⟨Nat.le_of_ble_eq_true rfl, Nat.le_of_ble_eq_true rfl⟩) hP hD hS hA [1, 2] (by decide) rfl rfl (WS' := (w_X11_minutes a0 q_ocean q_ocean_depths q_ocean_times q_text q_trees q_found q_images q_search q_stories q_signs q_calendar q_draft q_ocean_figures cA s_yearOfNow s_ocean_pace s_ocean_fade s_ocean_depths s_ocean_times)) rfl 1 4 rfl rfl rfl hl.1 rfl (st' := [.int r_1]) rfl (Nat.le_of_ble_eq_true rfl) ⟨Nat.zero_le _, Nat.zero_le _⟩ dX11_minutes_5 (fun H locs hP hD hS => ?_)
  refine lv_if_ne (tgt := 13) hx hb dX11_minutes_8 (by decide) (fun c_3 => ?_) (fun c_3 => ?_)
  · have hf := pbr_f c_3 hf
    refine lv_iload_n hx hb dX11_minutes_13 rfl (lv_at hl 2 rfl) ?_
    refine lv_iconst (v := (0 : Int32)) hx hb dX11_minutes_14 (by decide) ?_
    refine lv_ldcw (v := (16777215 : Int32)) hx hb hown (hts _ hw_X11_minutes_c341) dX11_minutes_15 ?_
    obtain ⟨r_4, hc_5, hf⟩ := pcl_e hf
    refine m_callS (As := [.int x2, .int (0 : Int32), .int (16777215 : Int32)]) (rest := []) ⟨hx, hb, hml, hown, hts⟩ hX (ct_X11_within l D cA x2 (0 : Int32) (16777215 : Int32) r_4 hc_5) (va_cwS 3 hts gX11_minutes_X11_within rfl rfl rfl (by decide +kernel) ⟨Nat.le_of_ble_eq_true rfl, Nat.le_of_ble_eq_true rfl⟩) hP hD hS hA [] (by decide) rfl rfl (WS' := (w_X11_minutes a0 q_ocean q_ocean_depths q_ocean_times q_text q_trees q_found q_images q_search q_stories q_signs q_calendar q_draft q_ocean_figures cA s_yearOfNow s_ocean_pace s_ocean_fade s_ocean_depths s_ocean_times)) rfl rfl hl.1 rfl (st' := [.int r_4]) rfl (Nat.le_of_ble_eq_true rfl) ⟨Nat.zero_le _, Nat.zero_le _⟩ dX11_minutes_18 (fun H locs hP hD hS => ?_)
    refine lv_if_eq (tgt := 35) hx hb dX11_minutes_21 (by decide) (fun c_6 => ?_) (fun c_6 => ?_)
    · have hf := pbr_t c_6 hf
      refine lv_iconst (v := (-1 : Int32)) hx hb dX11_minutes_35 (by decide) ?_
      cases hf
      exact m_iret hx hb hr hlocks hP hS dX11_minutes_36
    have hf := pbr_f c_6 hf
    refine lv_iload_n hx hb dX11_minutes_24 rfl (lv_at hl 3 rfl) ?_
    refine lv_iconst (v := (0 : Int32)) hx hb dX11_minutes_25 (by decide) ?_
    refine lv_ldcw (v := (16777215 : Int32)) hx hb hown (hts _ hw_X11_minutes_c341) dX11_minutes_26 ?_
    obtain ⟨r_7, hc_8, hf⟩ := pcl_e hf
    refine m_callS (As := [.int x3, .int (0 : Int32), .int (16777215 : Int32)]) (rest := []) ⟨hx, hb, hml, hown, hts⟩ hX (ct_X11_within l D cA x3 (0 : Int32) (16777215 : Int32) r_7 hc_8) (va_cwS 3 hts gX11_minutes_X11_within rfl rfl rfl (by decide +kernel) ⟨Nat.le_of_ble_eq_true rfl, Nat.le_of_ble_eq_true rfl⟩) hP hD hS hA [] (by decide) rfl rfl (WS' := (w_X11_minutes a0 q_ocean q_ocean_depths q_ocean_times q_text q_trees q_found q_images q_search q_stories q_signs q_calendar q_draft q_ocean_figures cA s_yearOfNow s_ocean_pace s_ocean_fade s_ocean_depths s_ocean_times)) rfl rfl hl.1 rfl (st' := [.int r_7]) rfl (Nat.le_of_ble_eq_true rfl) ⟨Nat.zero_le _, Nat.zero_le _⟩ dX11_minutes_29 (fun H locs hP hD hS => ?_)
    refine lv_if_ne (tgt := 37) hx hb dX11_minutes_32 (by decide) (fun c_9 => ?_) (fun c_9 => ?_)
    · have hf := pbr_f c_9 hf
      refine lv_aload_n hx hb dX11_minutes_37 rfl (lv_at hl 0 rfl) ?_
      refine va_get (D := D) (ci := 11) (v := .ref q_ocean) (C := RX11) (T := TX11) (N := 11) hx hb hts hn_X11_minutes_X11 hown hK hP 0 rfl rfl 1 (by decide) (hts _ hw_X11_minutes_f19) (fun _ h9 => h9) rfl dX11_minutes_38 ?_
      refine lv_iload_n hx hb dX11_minutes_41 rfl (lv_at hl 1 rfl) ?_
      refine lv_iload_n hx hb dX11_minutes_42 rfl (lv_at hl 3 rfl) ?_
      refine lv_i2l hx hb dX11_minutes_43 rfl ?_
      refine lv_bipush (v := (24 : Int32)) hx hb dX11_minutes_44 (by decide) ?_
      refine lv_lshl hx hb dX11_minutes_46 rfl ?_
      refine lv_iload_n hx hb dX11_minutes_47 rfl (lv_at hl 2 rfl) ?_
      refine lv_i2l hx hb dX11_minutes_48 rfl ?_
      refine lv_lor hx hb dX11_minutes_49 ?_
      obtain ⟨⟨r_10, times_11⟩, hc_12, hf⟩ := pcl_e hf
      refine m_callV (As := [.int x1, .long ((x3.toInt64 <<< ((24 : Int32).toInt64 &&& 63)) ||| x2.toInt64)]) (rest := []) ⟨hx, hb, hml, hown, hts⟩ hX (ct_X4_soonest l D cA x1 ((x3.toInt64 <<< ((24 : Int32).toInt64 &&& 63)) ||| x2.toInt64) q_ocean q_ocean_times q_ocean_depths q_ocean_figures s_ocean_pace s_ocean_fade s_ocean_times s_ocean_depths r_10 times_11 hc_12) (cwV 2 hts gX11_minutes_X4_soonest rfl rfl rfl (by decide +kernel) ⟨Nat.le_of_ble_eq_true rfl, Nat.le_of_ble_eq_true rfl⟩) hP hD hS hA [1, 3, 2] (by decide) rfl rfl (WS' := (w_X11_minutes a0 q_ocean q_ocean_depths q_ocean_times q_text q_trees q_found q_images q_search q_stories q_signs q_calendar q_draft q_ocean_figures cA s_yearOfNow s_ocean_pace s_ocean_fade s_ocean_depths times_11)) rfl 1 4 rfl rfl rfl hl.1 rfl (st' := [.int r_10]) rfl (Nat.le_of_ble_eq_true rfl) ⟨Nat.zero_le _, Nat.zero_le _⟩ dX11_minutes_50 (fun H locs hP hD hS => ?_)
      cases hf
      exact m_iret hx hb hr hlocks hP hS dX11_minutes_53
    have hf := pbr_t c_9 hf
    refine lv_iconst (v := (-1 : Int32)) hx hb dX11_minutes_35 (by decide) ?_
    cases hf
    exact m_iret hx hb hr hlocks hP hS dX11_minutes_36
  have hf := pbr_t c_3 hf
  refine lv_iconst (v := (-1 : Int32)) hx hb dX11_minutes_11 (by decide) ?_
  cases hf
  exact m_iret hx hb hr hlocks hP hS dX11_minutes_12

/-! ===== OrphanWave.trust(II)I ===== -/
abbrev rm_X11_trust : Room := { frames := 3, cells := 0, slots := 0, locals := 66 }
abbrev w_X11_trust (a0 : Nat) (q_found : Nat) (q_found_sheets : Nat) (q_signs : Nat) (q_found_sheets_marshes : Nat) (q_found_sheets_olds : Nat) (q_found_sheets_youngs : Nat) (q_found_books : Nat) (q_text : Nat) (q_ocean : Nat) (q_trees : Nat) (q_images : Nat) (q_search : Nat) (q_stories : Nat) (q_calendar : Nat) (q_draft : Nat) (q_found_known : Nat) (q_found_weights : Nat) (q_found_books_cells : Nat) (q_found_books_froms : Nat) (q_found_books_tos : Nat) (q_found_books_lows : Nat) (q_found_books_highs : Nat) (cA : Nat → ClassId) (s_yearOfNow : Int32) (s_found_dugMarshes : Int32) (s_found_kept : Int32) (s_found_sheets_count : Int32) (s_signs_trace : Int64) (s_found_sheets_marshes : Nat → Int32) (s_found_sheets_olds : Nat → Int32) (s_found_sheets_youngs : Nat → Int32) (s_found_books_count : Int32) : va_W := [(a0, .inr (11, [.ref q_text, .ref q_ocean, .ref q_trees, .ref q_found, .ref q_images, .ref q_search, .ref q_stories, .ref q_signs, .ref q_calendar, .ref q_draft, .int s_yearOfNow])), (q_found, .inr (2, [.ref q_found_books, .ref q_found_sheets, .ref q_found_known, .ref q_found_weights, .int s_found_dugMarshes, .int s_found_kept])), (q_found_sheets, .inr (6, [.ref q_found_sheets_marshes, .ref q_found_sheets_olds, .ref q_found_sheets_youngs, .int s_found_sheets_count])), (q_signs, .inr (7, [.ref q_found, .long s_signs_trace])), (q_found_sheets_marshes, .inl (cA 1, 12, .inl s_found_sheets_marshes)), (q_found_sheets_olds, .inl (cA 1, 12, .inl s_found_sheets_olds)), (q_found_sheets_youngs, .inl (cA 1, 12, .inl s_found_sheets_youngs)), (q_found_books, .inr (0, [.ref q_found_books_cells, .ref q_found_books_froms, .ref q_found_books_tos, .ref q_found_books_lows, .ref q_found_books_highs, .int s_found_books_count]))]
theorem hn_X11_trust_X11 : ∀ w ∈ u_ws RX11 TX11 11, w ∈ wsX11_trust := by decide +kernel
theorem hn_X11_trust_X2 : ∀ w ∈ u_ws RX2 TX2 6, w ∈ wsX11_trust := by decide +kernel
theorem hn_X11_trust_X6 : ∀ w ∈ u_ws RX6 TX6 4, w ∈ wsX11_trust := by decide +kernel
theorem hw_X11_trust_f33 : Cond.fieldLink RX11 33 "OrphanWave" "found" "LOrphanWave$Findings;" ∈ wsX11_trust := by decide +kernel
theorem hw_X11_trust_f66 : Cond.fieldLink RX11 66 "OrphanWave" "signs" "LOrphanWave$Signs;" ∈ wsX11_trust := by decide +kernel
theorem hw_X11_trust_c163 : Cond.constant RX11 163 (-1000000) ∈ wsX11_trust := by decide +kernel

def f_X11_trust (x1 : Int32) (x2 : Int32) (s_found_sheets_count : Int32) (s_signs_trace : Int64) (s_found_sheets_marshes : Nat → Int32) (s_found_sheets_olds : Nat → Int32) (s_found_sheets_youngs : Nat → Int32) (s_found_books_count : Int32) : Option ((Int32) × (Int64)) :=
  pcl (f_X11_within x2 (0 : Int32) (s_found_sheets_count - (1 : Int32))) (fun r_1 => (
  pbr (r_1 = 0)
    (some ((-1000000 : Int32), s_signs_trace))
    (pbr (x1 = (0 : Int32))
      (pcl (f_X7_asSign x2 s_signs_trace s_found_sheets_marshes) (fun (r_5, trace_6) => (
      some (r_5, trace_6))))
    (pbr (x1 = (1 : Int32))
      (pcl (f_X7_asSheet x2 s_signs_trace s_found_sheets_count s_found_sheets_marshes s_found_sheets_olds s_found_sheets_youngs) (fun (r_9, trace_10) => (
      some (r_9, trace_10))))
    (pbr (x1 = (2 : Int32))
      (pcl (f_X7_asWritten x2 s_signs_trace s_found_sheets_marshes s_found_books_count) (fun (r_13, trace_14) => (
      some (r_13, trace_14))))
    (pbr (x1 = (3 : Int32))
      (pcl (f_X7_asSlid x2 s_signs_trace s_found_sheets_count s_found_sheets_marshes s_found_sheets_olds s_found_sheets_youngs) (fun (r_17, trace_18) => (
      some (r_17, trace_18))))
    (pbr (x1 = (4 : Int32))
      (pcl (f_X7_asTold x2 s_signs_trace s_found_books_count s_found_sheets_marshes) (fun (r_21, trace_22) => (
      some (r_21, trace_22))))
    (pbr (x1 = (5 : Int32))
      (pcl (f_X7_asAged x2 s_signs_trace s_found_sheets_youngs s_found_sheets_olds s_found_sheets_marshes) (fun (r_25, trace_26) => (
      some (r_25, trace_26))))
    (some ((-1000000 : Int32), s_signs_trace))))))))))

set_option maxRecDepth 100000 in
set_option maxHeartbeats 4000000 in
theorem ct_X11_trust (l : Launch) (D : va_G) (cA : Nat → ClassId) (x1 : Int32) (x2 : Int32) (a0 : Nat) (q_found : Nat) (q_found_sheets : Nat) (q_signs : Nat) (q_found_sheets_marshes : Nat) (q_found_sheets_olds : Nat) (q_found_sheets_youngs : Nat) (q_found_books : Nat) (q_text : Nat) (q_ocean : Nat) (q_trees : Nat) (q_images : Nat) (q_search : Nat) (q_stories : Nat) (q_calendar : Nat) (q_draft : Nat) (q_found_known : Nat) (q_found_weights : Nat) (q_found_books_cells : Nat) (q_found_books_froms : Nat) (q_found_books_tos : Nat) (q_found_books_lows : Nat) (q_found_books_highs : Nat) (s_yearOfNow : Int32) (s_found_dugMarshes : Int32) (s_found_kept : Int32) (s_found_sheets_count : Int32) (s_signs_trace : Int64) (s_found_sheets_marshes : Nat → Int32) (s_found_sheets_olds : Nat → Int32) (s_found_sheets_youngs : Nat → Int32) (s_found_books_count : Int32) (o_r : Int32) (o_signs_trace : Int64) (hf : f_X11_trust x1 x2 s_found_sheets_count s_signs_trace s_found_sheets_marshes s_found_sheets_olds s_found_sheets_youngs s_found_books_count = some (o_r, o_signs_trace)) : CT l yX11_trust wsX11_trust rm_X11_trust D cA [.ref a0, .int x1, .int x2] (w_X11_trust a0 q_found q_found_sheets q_signs q_found_sheets_marshes q_found_sheets_olds q_found_sheets_youngs q_found_books q_text q_ocean q_trees q_images q_search q_stories q_calendar q_draft q_found_known q_found_weights q_found_books_cells q_found_books_froms q_found_books_tos q_found_books_lows q_found_books_highs cA s_yearOfNow s_found_dugMarshes s_found_kept s_found_sheets_count s_signs_trace s_found_sheets_marshes s_found_sheets_olds s_found_sheets_youngs s_found_books_count) (w_X11_trust a0 q_found q_found_sheets q_signs q_found_sheets_marshes q_found_sheets_olds q_found_sheets_youngs q_found_books q_text q_ocean q_trees q_images q_search q_stories q_calendar q_draft q_found_known q_found_weights q_found_books_cells q_found_books_froms q_found_books_tos q_found_books_lows q_found_books_highs cA s_yearOfNow s_found_dugMarshes s_found_kept s_found_sheets_count o_signs_trace s_found_sheets_marshes s_found_sheets_olds s_found_sheets_youngs s_found_books_count) (some (.int o_r)) := by
  refine CT.ofW (cc := cX11_trust) (maxL := 3) (ret := (some .int)) (by decide +kernel) rfl (Nat.le_of_ble_eq_true rfl) ?_
  intro p e s m below meth c A C0 hA hP hD ls hl
  have C0 : MX p s m [.ref a0, .int x1, .int x2].toArray meth c cX11_trust 3 wsX11_trust RX11 (some .int) D cA := C0
  have hl : lv_has ls 3 [(0, .ref a0), (1, .int x1), (2, .int x2)] := hl
  obtain ⟨hx, hb, hml, hown, hts, hr, hlocks, hX⟩ := id C0
  have hK := hX.1
  have hN := hX.2
  have hS : va_S A s.heap s.heap [] := va_S.rf
  unfold f_X11_trust at hf
  refine lv_iload_n hx hb dX11_trust_0 rfl (lv_at hl 2 rfl) ?_
  refine lv_iconst (v := (0 : Int32)) hx hb dX11_trust_1 (by decide) ?_
  refine lv_aload_n hx hb dX11_trust_2 rfl (lv_at hl 0 rfl) ?_
  refine va_get (D := D) (ci := 11) (v := .ref q_found) (C := RX11) (T := TX11) (N := 11) hx hb hts hn_X11_trust_X11 hown hK hP 0 rfl rfl 3 (by decide) (hts _ hw_X11_trust_f33) (fun _ h9 => h9) rfl dX11_trust_3 ?_
  refine va_getN (D := D) (ci := 2) (v := .ref q_found_sheets) (C := RX2) (T := TX2) (N := 6) hx hb hts hn_X11_trust_X2 hown hK hP 1 rfl rfl 1 (by decide) (va_Nw.use rfl (hN _ nw_X11_250)) (fun _ h9 => h9) rfl dX11_trust_6 ?_
  refine va_getN (D := D) (ci := 6) (v := .int s_found_sheets_count) (C := RX6) (T := TX6) (N := 4) hx hb hts hn_X11_trust_X6 hown hK hP 2 rfl rfl 3 (by decide) (va_Nw.use rfl (hN _ nw_X11_254)) (fun _ h9 => h9) rfl dX11_trust_9 ?_
  refine lv_iconst (v := (1 : Int32)) hx hb dX11_trust_12 (by decide) ?_
  refine lv_isub hx hb dX11_trust_13 ?_
  obtain ⟨r_1, hc_2, hf⟩ := pcl_e hf
  refine m_callS (As := [.int x2, .int (0 : Int32), .int (s_found_sheets_count - (1 : Int32))]) (rest := []) ⟨hx, hb, hml, hown, hts⟩ hX (ct_X11_within l D cA x2 (0 : Int32) (s_found_sheets_count - (1 : Int32)) r_1 hc_2) (va_cwS 3 hts gX11_trust_X11_within rfl rfl rfl (by decide +kernel) ⟨Nat.le_of_ble_eq_true rfl, Nat.le_of_ble_eq_true rfl⟩) hP hD hS hA [] (by decide) rfl rfl (WS' := (w_X11_trust a0 q_found q_found_sheets q_signs q_found_sheets_marshes q_found_sheets_olds q_found_sheets_youngs q_found_books q_text q_ocean q_trees q_images q_search q_stories q_calendar q_draft q_found_known q_found_weights q_found_books_cells q_found_books_froms q_found_books_tos q_found_books_lows q_found_books_highs cA s_yearOfNow s_found_dugMarshes s_found_kept s_found_sheets_count s_signs_trace s_found_sheets_marshes s_found_sheets_olds s_found_sheets_youngs s_found_books_count)) rfl rfl hl.1 rfl (st' := [.int r_1]) rfl (Nat.le_of_ble_eq_true rfl) ⟨Nat.zero_le _, Nat.zero_le _⟩ dX11_trust_14 (fun H locs hP hD hS => ?_)
  refine lv_if_ne (tgt := 23) hx hb dX11_trust_17 (by decide) (fun c_3 => ?_) (fun c_3 => ?_)
  · have hf := pbr_f c_3 hf
    refine lv_iload_n hx hb dX11_trust_23 rfl (lv_at hl 1 rfl) ?_
    by_cases c_4 : x1 = (0 : Int32)
    · have hf := pbr_t c_4 hf
      refine lv_tableIn (off := 40) (tgt := 64) hx hb dX11_trust_24 (by rw [c_4]; decide) (by rw [c_4]; decide) (by rw [c_4]; rfl) (by decide) ?_
      refine lv_aload_n hx hb dX11_trust_64 rfl (lv_at hl 0 rfl) ?_
      refine va_get (D := D) (ci := 11) (v := .ref q_signs) (C := RX11) (T := TX11) (N := 11) hx hb hts hn_X11_trust_X11 hown hK hP 0 rfl rfl 7 (by decide) (hts _ hw_X11_trust_f66) (fun _ h9 => h9) rfl dX11_trust_65 ?_
      refine lv_iload_n hx hb dX11_trust_68 rfl (lv_at hl 2 rfl) ?_
      obtain ⟨⟨r_5, trace_6⟩, hc_7, hf⟩ := pcl_e hf
      refine m_callV (As := [.int x2]) (rest := []) ⟨hx, hb, hml, hown, hts⟩ hX (ct_X7_asSign l D cA x2 q_signs q_found q_found_sheets q_found_sheets_marshes q_found_books q_found_known q_found_weights q_found_sheets_olds q_found_sheets_youngs s_signs_trace s_found_dugMarshes s_found_kept s_found_sheets_count s_found_sheets_marshes r_5 trace_6 hc_7) (cwV 1 hts gX11_trust_X7_asSign rfl rfl rfl (by decide +kernel) ⟨Nat.le_of_ble_eq_true rfl, Nat.le_of_ble_eq_true rfl⟩) hP hD hS hA [3, 1, 2, 4] (by decide) rfl rfl (WS' := (w_X11_trust a0 q_found q_found_sheets q_signs q_found_sheets_marshes q_found_sheets_olds q_found_sheets_youngs q_found_books q_text q_ocean q_trees q_images q_search q_stories q_calendar q_draft q_found_known q_found_weights q_found_books_cells q_found_books_froms q_found_books_tos q_found_books_lows q_found_books_highs cA s_yearOfNow s_found_dugMarshes s_found_kept s_found_sheets_count trace_6 s_found_sheets_marshes s_found_sheets_olds s_found_sheets_youngs s_found_books_count)) rfl 3 7 rfl rfl rfl hl.1 rfl (st' := [.int r_5]) rfl (Nat.le_of_ble_eq_true rfl) ⟨Nat.zero_le _, Nat.zero_le _⟩ dX11_trust_69 (fun H locs hP hD hS => ?_)
      cases hf
      exact m_iret hx hb hr hlocks hP hS dX11_trust_72
    have hf := pbr_f c_4 hf
    by_cases c_8 : x1 = (1 : Int32)
    · have hf := pbr_t c_8 hf
      refine lv_tableIn (off := 49) (tgt := 73) hx hb dX11_trust_24 (by rw [c_8]; decide) (by rw [c_8]; decide) (by rw [c_8]; rfl) (by decide) ?_
      refine lv_aload_n hx hb dX11_trust_73 rfl (lv_at hl 0 rfl) ?_
      refine va_get (D := D) (ci := 11) (v := .ref q_signs) (C := RX11) (T := TX11) (N := 11) hx hb hts hn_X11_trust_X11 hown hK hP 0 rfl rfl 7 (by decide) (hts _ hw_X11_trust_f66) (fun _ h9 => h9) rfl dX11_trust_74 ?_
      refine lv_iload_n hx hb dX11_trust_77 rfl (lv_at hl 2 rfl) ?_
      obtain ⟨⟨r_9, trace_10⟩, hc_11, hf⟩ := pcl_e hf
      refine m_callV (As := [.int x2]) (rest := []) ⟨hx, hb, hml, hown, hts⟩ hX (ct_X7_asSheet l D cA x2 q_signs q_found q_found_sheets q_found_sheets_marshes q_found_sheets_olds q_found_sheets_youngs q_found_books q_found_known q_found_weights s_signs_trace s_found_dugMarshes s_found_kept s_found_sheets_count s_found_sheets_marshes s_found_sheets_olds s_found_sheets_youngs r_9 trace_10 hc_11) (cwV 1 hts gX11_trust_X7_asSheet rfl rfl rfl (by decide +kernel) ⟨Nat.le_of_ble_eq_true rfl, Nat.le_of_ble_eq_true rfl⟩) hP hD hS hA [3, 1, 2, 4, 5, 6] (by decide) rfl rfl (WS' := (w_X11_trust a0 q_found q_found_sheets q_signs q_found_sheets_marshes q_found_sheets_olds q_found_sheets_youngs q_found_books q_text q_ocean q_trees q_images q_search q_stories q_calendar q_draft q_found_known q_found_weights q_found_books_cells q_found_books_froms q_found_books_tos q_found_books_lows q_found_books_highs cA s_yearOfNow s_found_dugMarshes s_found_kept s_found_sheets_count trace_10 s_found_sheets_marshes s_found_sheets_olds s_found_sheets_youngs s_found_books_count)) rfl 3 7 rfl rfl rfl hl.1 rfl (st' := [.int r_9]) rfl (Nat.le_of_ble_eq_true rfl) ⟨Nat.zero_le _, Nat.zero_le _⟩ dX11_trust_78 (fun H locs hP hD hS => ?_)
      cases hf
      exact m_iret hx hb hr hlocks hP hS dX11_trust_81
    have hf := pbr_f c_8 hf
    by_cases c_12 : x1 = (2 : Int32)
    · have hf := pbr_t c_12 hf
      refine lv_tableIn (off := 58) (tgt := 82) hx hb dX11_trust_24 (by rw [c_12]; decide) (by rw [c_12]; decide) (by rw [c_12]; rfl) (by decide) ?_
      refine lv_aload_n hx hb dX11_trust_82 rfl (lv_at hl 0 rfl) ?_
      refine va_get (D := D) (ci := 11) (v := .ref q_signs) (C := RX11) (T := TX11) (N := 11) hx hb hts hn_X11_trust_X11 hown hK hP 0 rfl rfl 7 (by decide) (hts _ hw_X11_trust_f66) (fun _ h9 => h9) rfl dX11_trust_83 ?_
      refine lv_iload_n hx hb dX11_trust_86 rfl (lv_at hl 2 rfl) ?_
      obtain ⟨⟨r_13, trace_14⟩, hc_15, hf⟩ := pcl_e hf
      refine m_callV (As := [.int x2]) (rest := []) ⟨hx, hb, hml, hown, hts⟩ hX (ct_X7_asWritten l D cA x2 q_signs q_found q_found_sheets q_found_sheets_marshes q_found_books q_found_known q_found_weights q_found_sheets_olds q_found_sheets_youngs q_found_books_cells q_found_books_froms q_found_books_tos q_found_books_lows q_found_books_highs s_signs_trace s_found_dugMarshes s_found_kept s_found_sheets_count s_found_sheets_marshes s_found_books_count r_13 trace_14 hc_15) (cwV 1 hts gX11_trust_X7_asWritten rfl rfl rfl (by decide +kernel) ⟨Nat.le_of_ble_eq_true rfl, Nat.le_of_ble_eq_true rfl⟩) hP hD hS hA [3, 1, 2, 4, 7] (by decide) rfl rfl (WS' := (w_X11_trust a0 q_found q_found_sheets q_signs q_found_sheets_marshes q_found_sheets_olds q_found_sheets_youngs q_found_books q_text q_ocean q_trees q_images q_search q_stories q_calendar q_draft q_found_known q_found_weights q_found_books_cells q_found_books_froms q_found_books_tos q_found_books_lows q_found_books_highs cA s_yearOfNow s_found_dugMarshes s_found_kept s_found_sheets_count trace_14 s_found_sheets_marshes s_found_sheets_olds s_found_sheets_youngs s_found_books_count)) rfl 3 7 rfl rfl rfl hl.1 rfl (st' := [.int r_13]) rfl (Nat.le_of_ble_eq_true rfl) ⟨Nat.zero_le _, Nat.zero_le _⟩ dX11_trust_87 (fun H locs hP hD hS => ?_)
      cases hf
      exact m_iret hx hb hr hlocks hP hS dX11_trust_90
    have hf := pbr_f c_12 hf
    by_cases c_16 : x1 = (3 : Int32)
    · have hf := pbr_t c_16 hf
      refine lv_tableIn (off := 67) (tgt := 91) hx hb dX11_trust_24 (by rw [c_16]; decide) (by rw [c_16]; decide) (by rw [c_16]; rfl) (by decide) ?_
      refine lv_aload_n hx hb dX11_trust_91 rfl (lv_at hl 0 rfl) ?_
      refine va_get (D := D) (ci := 11) (v := .ref q_signs) (C := RX11) (T := TX11) (N := 11) hx hb hts hn_X11_trust_X11 hown hK hP 0 rfl rfl 7 (by decide) (hts _ hw_X11_trust_f66) (fun _ h9 => h9) rfl dX11_trust_92 ?_
      refine lv_iload_n hx hb dX11_trust_95 rfl (lv_at hl 2 rfl) ?_
      obtain ⟨⟨r_17, trace_18⟩, hc_19, hf⟩ := pcl_e hf
      refine m_callV (As := [.int x2]) (rest := []) ⟨hx, hb, hml, hown, hts⟩ hX (ct_X7_asSlid l D cA x2 q_signs q_found q_found_sheets q_found_sheets_marshes q_found_sheets_olds q_found_sheets_youngs q_found_books q_found_known q_found_weights s_signs_trace s_found_dugMarshes s_found_kept s_found_sheets_count s_found_sheets_marshes s_found_sheets_olds s_found_sheets_youngs r_17 trace_18 hc_19) (cwV 1 hts gX11_trust_X7_asSlid rfl rfl rfl (by decide +kernel) ⟨Nat.le_of_ble_eq_true rfl, Nat.le_of_ble_eq_true rfl⟩) hP hD hS hA [3, 1, 2, 4, 5, 6] (by decide) rfl rfl (WS' := (w_X11_trust a0 q_found q_found_sheets q_signs q_found_sheets_marshes q_found_sheets_olds q_found_sheets_youngs q_found_books q_text q_ocean q_trees q_images q_search q_stories q_calendar q_draft q_found_known q_found_weights q_found_books_cells q_found_books_froms q_found_books_tos q_found_books_lows q_found_books_highs cA s_yearOfNow s_found_dugMarshes s_found_kept s_found_sheets_count trace_18 s_found_sheets_marshes s_found_sheets_olds s_found_sheets_youngs s_found_books_count)) rfl 3 7 rfl rfl rfl hl.1 rfl (st' := [.int r_17]) rfl (Nat.le_of_ble_eq_true rfl) ⟨Nat.zero_le _, Nat.zero_le _⟩ dX11_trust_96 (fun H locs hP hD hS => ?_)
      cases hf
      exact m_iret hx hb hr hlocks hP hS dX11_trust_99
    have hf := pbr_f c_16 hf
    by_cases c_20 : x1 = (4 : Int32)
    · have hf := pbr_t c_20 hf
      refine lv_tableIn (off := 76) (tgt := 100) hx hb dX11_trust_24 (by rw [c_20]; decide) (by rw [c_20]; decide) (by rw [c_20]; rfl) (by decide) ?_
      refine lv_aload_n hx hb dX11_trust_100 rfl (lv_at hl 0 rfl) ?_
      refine va_get (D := D) (ci := 11) (v := .ref q_signs) (C := RX11) (T := TX11) (N := 11) hx hb hts hn_X11_trust_X11 hown hK hP 0 rfl rfl 7 (by decide) (hts _ hw_X11_trust_f66) (fun _ h9 => h9) rfl dX11_trust_101 ?_
      refine lv_iload_n hx hb dX11_trust_104 rfl (lv_at hl 2 rfl) ?_
      obtain ⟨⟨r_21, trace_22⟩, hc_23, hf⟩ := pcl_e hf
      refine m_callV (As := [.int x2]) (rest := []) ⟨hx, hb, hml, hown, hts⟩ hX (ct_X7_asTold l D cA x2 q_signs q_found q_found_sheets q_found_books q_found_sheets_marshes q_found_known q_found_weights q_found_sheets_olds q_found_sheets_youngs q_found_books_cells q_found_books_froms q_found_books_tos q_found_books_lows q_found_books_highs s_signs_trace s_found_dugMarshes s_found_kept s_found_sheets_count s_found_books_count s_found_sheets_marshes r_21 trace_22 hc_23) (cwV 1 hts gX11_trust_X7_asTold rfl rfl rfl (by decide +kernel) ⟨Nat.le_of_ble_eq_true rfl, Nat.le_of_ble_eq_true rfl⟩) hP hD hS hA [3, 1, 2, 7, 4] (by decide) rfl rfl (WS' := (w_X11_trust a0 q_found q_found_sheets q_signs q_found_sheets_marshes q_found_sheets_olds q_found_sheets_youngs q_found_books q_text q_ocean q_trees q_images q_search q_stories q_calendar q_draft q_found_known q_found_weights q_found_books_cells q_found_books_froms q_found_books_tos q_found_books_lows q_found_books_highs cA s_yearOfNow s_found_dugMarshes s_found_kept s_found_sheets_count trace_22 s_found_sheets_marshes s_found_sheets_olds s_found_sheets_youngs s_found_books_count)) rfl 3 7 rfl rfl rfl hl.1 rfl (st' := [.int r_21]) rfl (Nat.le_of_ble_eq_true rfl) ⟨Nat.zero_le _, Nat.zero_le _⟩ dX11_trust_105 (fun H locs hP hD hS => ?_)
      cases hf
      exact m_iret hx hb hr hlocks hP hS dX11_trust_108
    have hf := pbr_f c_20 hf
    by_cases c_24 : x1 = (5 : Int32)
    · have hf := pbr_t c_24 hf
      refine lv_tableIn (off := 85) (tgt := 109) hx hb dX11_trust_24 (by rw [c_24]; decide) (by rw [c_24]; decide) (by rw [c_24]; rfl) (by decide) ?_
      refine lv_aload_n hx hb dX11_trust_109 rfl (lv_at hl 0 rfl) ?_
      refine va_get (D := D) (ci := 11) (v := .ref q_signs) (C := RX11) (T := TX11) (N := 11) hx hb hts hn_X11_trust_X11 hown hK hP 0 rfl rfl 7 (by decide) (hts _ hw_X11_trust_f66) (fun _ h9 => h9) rfl dX11_trust_110 ?_
      refine lv_iload_n hx hb dX11_trust_113 rfl (lv_at hl 2 rfl) ?_
      obtain ⟨⟨r_25, trace_26⟩, hc_27, hf⟩ := pcl_e hf
      refine m_callV (As := [.int x2]) (rest := []) ⟨hx, hb, hml, hown, hts⟩ hX (ct_X7_asAged l D cA x2 q_signs q_found q_found_sheets q_found_sheets_youngs q_found_sheets_olds q_found_sheets_marshes q_found_books q_found_known q_found_weights s_signs_trace s_found_dugMarshes s_found_kept s_found_sheets_count s_found_sheets_youngs s_found_sheets_olds s_found_sheets_marshes r_25 trace_26 hc_27) (cwV 1 hts gX11_trust_X7_asAged rfl rfl rfl (by decide +kernel) ⟨Nat.le_of_ble_eq_true rfl, Nat.le_of_ble_eq_true rfl⟩) hP hD hS hA [3, 1, 2, 6, 5, 4] (by decide) rfl rfl (WS' := (w_X11_trust a0 q_found q_found_sheets q_signs q_found_sheets_marshes q_found_sheets_olds q_found_sheets_youngs q_found_books q_text q_ocean q_trees q_images q_search q_stories q_calendar q_draft q_found_known q_found_weights q_found_books_cells q_found_books_froms q_found_books_tos q_found_books_lows q_found_books_highs cA s_yearOfNow s_found_dugMarshes s_found_kept s_found_sheets_count trace_26 s_found_sheets_marshes s_found_sheets_olds s_found_sheets_youngs s_found_books_count)) rfl 3 7 rfl rfl rfl hl.1 rfl (st' := [.int r_25]) rfl (Nat.le_of_ble_eq_true rfl) ⟨Nat.zero_le _, Nat.zero_le _⟩ dX11_trust_114 (fun H locs hP hD hS => ?_)
      cases hf
      exact m_iret hx hb hr hlocks hP hS dX11_trust_117
    have hf := pbr_f c_24 hf
    refine lv_tableOut (tgt := 118) hx hb dX11_trust_24 (by have := lv_neT (a := 0) c_4 (by decide); have := lv_neT (a := 1) c_8 (by decide); have := lv_neT (a := 2) c_12 (by decide); have := lv_neT (a := 3) c_16 (by decide); have := lv_neT (a := 4) c_20 (by decide); have := lv_neT (a := 5) c_24 (by decide); omega) (by decide) ?_
    refine lv_ldc (v := (-1000000 : Int32)) hx hb hown (hts _ hw_X11_trust_c163) dX11_trust_118 ?_
    cases hf
    exact m_iret hx hb hr hlocks hP hS dX11_trust_120
  have hf := pbr_t c_3 hf
  refine lv_ldc (v := (-1000000 : Int32)) hx hb hown (hts _ hw_X11_trust_c163) dX11_trust_20 ?_
  cases hf
  exact m_iret hx hb hr hlocks hP hS dX11_trust_22

/-! ===== OrphanWave.keep(I)I ===== -/
abbrev rm_X11_keep : Room := { frames := 3, cells := 0, slots := 0, locals := 60 }
abbrev w_X11_keep (a0 : Nat) (q_images : Nat) (q_images_0 : Nat) (q_found : Nat) (q_images_0_books : Nat) (q_found_books : Nat) (q_images_0_sheets : Nat) (q_found_sheets : Nat) (q_images_0_known : Nat) (q_found_known : Nat) (q_found_weights : Nat) (q_images_0_weights : Nat) (q_found_books_cells : Nat) (q_images_0_books_cells : Nat) (q_found_books_froms : Nat) (q_images_0_books_froms : Nat) (q_found_books_tos : Nat) (q_images_0_books_tos : Nat) (q_found_books_lows : Nat) (q_images_0_books_lows : Nat) (q_found_books_highs : Nat) (q_images_0_books_highs : Nat) (q_found_sheets_marshes : Nat) (q_images_0_sheets_marshes : Nat) (q_found_sheets_olds : Nat) (q_images_0_sheets_olds : Nat) (q_found_sheets_youngs : Nat) (q_images_0_sheets_youngs : Nat) (q_found_known_years : Nat) (q_images_0_known_years : Nat) (q_images_1 : Nat) (q_images_1_books : Nat) (q_images_1_sheets : Nat) (q_images_1_known : Nat) (q_images_1_weights : Nat) (q_images_1_books_cells : Nat) (q_images_1_books_froms : Nat) (q_images_1_books_tos : Nat) (q_images_1_books_lows : Nat) (q_images_1_books_highs : Nat) (q_images_1_sheets_marshes : Nat) (q_images_1_sheets_olds : Nat) (q_images_1_sheets_youngs : Nat) (q_images_1_known_years : Nat) (q_text : Nat) (q_ocean : Nat) (q_trees : Nat) (q_search : Nat) (q_stories : Nat) (q_signs : Nat) (q_calendar : Nat) (q_draft : Nat) (cA : Nat → ClassId) (s_yearOfNow : Int32) (s_images_0_dugMarshes : Int32) (s_images_0_kept : Int32) (s_found_dugMarshes : Int32) (s_found_kept : Int32) (s_images_0_books_count : Int32) (s_found_books_count : Int32) (s_images_0_sheets_count : Int32) (s_found_sheets_count : Int32) (s_images_0_known_count : Int32) (s_found_known_count : Int32) (s_found_weights : Nat → Int64) (s_images_0_weights : Nat → Int64) (s_found_books_cells : Nat → Int32) (s_images_0_books_cells : Nat → Int32) (s_found_books_froms : Nat → Int32) (s_images_0_books_froms : Nat → Int32) (s_found_books_tos : Nat → Int32) (s_images_0_books_tos : Nat → Int32) (s_found_books_lows : Nat → Int32) (s_images_0_books_lows : Nat → Int32) (s_found_books_highs : Nat → Int32) (s_images_0_books_highs : Nat → Int32) (s_found_sheets_marshes : Nat → Int32) (s_images_0_sheets_marshes : Nat → Int32) (s_found_sheets_olds : Nat → Int32) (s_images_0_sheets_olds : Nat → Int32) (s_found_sheets_youngs : Nat → Int32) (s_images_0_sheets_youngs : Nat → Int32) (s_found_known_years : Nat → Int32) (s_images_0_known_years : Nat → Int32) (s_images_1_dugMarshes : Int32) (s_images_1_kept : Int32) (s_images_1_books_count : Int32) (s_images_1_sheets_count : Int32) (s_images_1_known_count : Int32) (s_images_1_weights : Nat → Int64) (s_images_1_books_cells : Nat → Int32) (s_images_1_books_froms : Nat → Int32) (s_images_1_books_tos : Nat → Int32) (s_images_1_books_lows : Nat → Int32) (s_images_1_books_highs : Nat → Int32) (s_images_1_sheets_marshes : Nat → Int32) (s_images_1_sheets_olds : Nat → Int32) (s_images_1_sheets_youngs : Nat → Int32) (s_images_1_known_years : Nat → Int32) : va_W := [(a0, .inr (11, [.ref q_text, .ref q_ocean, .ref q_trees, .ref q_found, .ref q_images, .ref q_search, .ref q_stories, .ref q_signs, .ref q_calendar, .ref q_draft, .int s_yearOfNow])), (q_images, .inl (cA 4, 2, .inr (.inr (.inr (.inr (vi2 q_images_0 q_images_1)))))), (q_images_0, .inr (2, [.ref q_images_0_books, .ref q_images_0_sheets, .ref q_images_0_known, .ref q_images_0_weights, .int s_images_0_dugMarshes, .int s_images_0_kept])), (q_found, .inr (2, [.ref q_found_books, .ref q_found_sheets, .ref q_found_known, .ref q_found_weights, .int s_found_dugMarshes, .int s_found_kept])), (q_images_0_books, .inr (0, [.ref q_images_0_books_cells, .ref q_images_0_books_froms, .ref q_images_0_books_tos, .ref q_images_0_books_lows, .ref q_images_0_books_highs, .int s_images_0_books_count])), (q_found_books, .inr (0, [.ref q_found_books_cells, .ref q_found_books_froms, .ref q_found_books_tos, .ref q_found_books_lows, .ref q_found_books_highs, .int s_found_books_count])), (q_images_0_sheets, .inr (6, [.ref q_images_0_sheets_marshes, .ref q_images_0_sheets_olds, .ref q_images_0_sheets_youngs, .int s_images_0_sheets_count])), (q_found_sheets, .inr (6, [.ref q_found_sheets_marshes, .ref q_found_sheets_olds, .ref q_found_sheets_youngs, .int s_found_sheets_count])), (q_images_0_known, .inr (3, [.ref q_images_0_known_years, .int s_images_0_known_count])), (q_found_known, .inr (3, [.ref q_found_known_years, .int s_found_known_count])), (q_found_weights, .inl (cA 2, 5, .inr (.inl s_found_weights))), (q_images_0_weights, .inl (cA 2, 5, .inr (.inl s_images_0_weights))), (q_found_books_cells, .inl (cA 1, 6, .inl s_found_books_cells)), (q_images_0_books_cells, .inl (cA 1, 6, .inl s_images_0_books_cells)), (q_found_books_froms, .inl (cA 1, 6, .inl s_found_books_froms)), (q_images_0_books_froms, .inl (cA 1, 6, .inl s_images_0_books_froms)), (q_found_books_tos, .inl (cA 1, 6, .inl s_found_books_tos)), (q_images_0_books_tos, .inl (cA 1, 6, .inl s_images_0_books_tos)), (q_found_books_lows, .inl (cA 1, 6, .inl s_found_books_lows)), (q_images_0_books_lows, .inl (cA 1, 6, .inl s_images_0_books_lows)), (q_found_books_highs, .inl (cA 1, 6, .inl s_found_books_highs)), (q_images_0_books_highs, .inl (cA 1, 6, .inl s_images_0_books_highs)), (q_found_sheets_marshes, .inl (cA 1, 12, .inl s_found_sheets_marshes)), (q_images_0_sheets_marshes, .inl (cA 1, 12, .inl s_images_0_sheets_marshes)), (q_found_sheets_olds, .inl (cA 1, 12, .inl s_found_sheets_olds)), (q_images_0_sheets_olds, .inl (cA 1, 12, .inl s_images_0_sheets_olds)), (q_found_sheets_youngs, .inl (cA 1, 12, .inl s_found_sheets_youngs)), (q_images_0_sheets_youngs, .inl (cA 1, 12, .inl s_images_0_sheets_youngs)), (q_found_known_years, .inl (cA 1, 16, .inl s_found_known_years)), (q_images_0_known_years, .inl (cA 1, 16, .inl s_images_0_known_years)), (q_images_1, .inr (2, [.ref q_images_1_books, .ref q_images_1_sheets, .ref q_images_1_known, .ref q_images_1_weights, .int s_images_1_dugMarshes, .int s_images_1_kept])), (q_images_1_books, .inr (0, [.ref q_images_1_books_cells, .ref q_images_1_books_froms, .ref q_images_1_books_tos, .ref q_images_1_books_lows, .ref q_images_1_books_highs, .int s_images_1_books_count])), (q_images_1_sheets, .inr (6, [.ref q_images_1_sheets_marshes, .ref q_images_1_sheets_olds, .ref q_images_1_sheets_youngs, .int s_images_1_sheets_count])), (q_images_1_known, .inr (3, [.ref q_images_1_known_years, .int s_images_1_known_count])), (q_images_1_weights, .inl (cA 2, 5, .inr (.inl s_images_1_weights))), (q_images_1_books_cells, .inl (cA 1, 6, .inl s_images_1_books_cells)), (q_images_1_books_froms, .inl (cA 1, 6, .inl s_images_1_books_froms)), (q_images_1_books_tos, .inl (cA 1, 6, .inl s_images_1_books_tos)), (q_images_1_books_lows, .inl (cA 1, 6, .inl s_images_1_books_lows)), (q_images_1_books_highs, .inl (cA 1, 6, .inl s_images_1_books_highs)), (q_images_1_sheets_marshes, .inl (cA 1, 12, .inl s_images_1_sheets_marshes)), (q_images_1_sheets_olds, .inl (cA 1, 12, .inl s_images_1_sheets_olds)), (q_images_1_sheets_youngs, .inl (cA 1, 12, .inl s_images_1_sheets_youngs)), (q_images_1_known_years, .inl (cA 1, 16, .inl s_images_1_known_years))]
theorem hn_X11_keep_X11 : ∀ w ∈ u_ws RX11 TX11 11, w ∈ wsX11_keep := by decide +kernel
theorem hn_X11_keep_X2 : ∀ w ∈ u_ws RX2 TX2 6, w ∈ wsX11_keep := by decide +kernel
theorem hn_X11_keep_X6 : ∀ w ∈ u_ws RX6 TX6 4, w ∈ wsX11_keep := by decide +kernel
theorem hw_X11_keep_f37 : Cond.fieldLink RX11 37 "OrphanWave" "images" "[LOrphanWave$Findings;" ∈ wsX11_keep := by decide +kernel
theorem hw_X11_keep_f33 : Cond.fieldLink RX11 33 "OrphanWave" "found" "LOrphanWave$Findings;" ∈ wsX11_keep := by decide +kernel

def f_X11_keep (x1 : Int32) (s_images_0_dugMarshes : Int32) (s_images_0_kept : Int32) (s_found_dugMarshes : Int32) (s_images_0_books_count : Int32) (s_found_books_count : Int32) (s_images_0_sheets_count : Int32) (s_found_sheets_count : Int32) (s_images_0_known_count : Int32) (s_found_known_count : Int32) (s_found_weights : Nat → Int64) (s_images_0_weights : Nat → Int64) (s_found_books_cells : Nat → Int32) (s_images_0_books_cells : Nat → Int32) (s_found_books_froms : Nat → Int32) (s_images_0_books_froms : Nat → Int32) (s_found_books_tos : Nat → Int32) (s_images_0_books_tos : Nat → Int32) (s_found_books_lows : Nat → Int32) (s_images_0_books_lows : Nat → Int32) (s_found_books_highs : Nat → Int32) (s_images_0_books_highs : Nat → Int32) (s_found_sheets_marshes : Nat → Int32) (s_images_0_sheets_marshes : Nat → Int32) (s_found_sheets_olds : Nat → Int32) (s_images_0_sheets_olds : Nat → Int32) (s_found_sheets_youngs : Nat → Int32) (s_images_0_sheets_youngs : Nat → Int32) (s_found_known_years : Nat → Int32) (s_images_0_known_years : Nat → Int32) (s_images_1_dugMarshes : Int32) (s_images_1_kept : Int32) (s_images_1_books_count : Int32) (s_images_1_sheets_count : Int32) (s_images_1_known_count : Int32) (s_images_1_weights : Nat → Int64) (s_images_1_books_cells : Nat → Int32) (s_images_1_books_froms : Nat → Int32) (s_images_1_books_tos : Nat → Int32) (s_images_1_books_lows : Nat → Int32) (s_images_1_books_highs : Nat → Int32) (s_images_1_sheets_marshes : Nat → Int32) (s_images_1_sheets_olds : Nat → Int32) (s_images_1_sheets_youngs : Nat → Int32) (s_images_1_known_years : Nat → Int32) : Option ((Int32) × (Int32) × (Int32) × (Int32) × (Int32) × (Int32) × (Nat → Int64) × (Nat → Int32) × (Nat → Int32) × (Nat → Int32) × (Nat → Int32) × (Nat → Int32) × (Nat → Int32) × (Nat → Int32) × (Nat → Int32) × (Nat → Int32) × (Int32) × (Int32) × (Int32) × (Int32) × (Int32) × (Nat → Int64) × (Nat → Int32) × (Nat → Int32) × (Nat → Int32) × (Nat → Int32) × (Nat → Int32) × (Nat → Int32) × (Nat → Int32) × (Nat → Int32) × (Nat → Int32)) :=
  pcl (f_X11_isImage x1) (fun r_1 => (
  pbr (r_1 = 0)
    (some ((-1 : Int32), s_images_0_dugMarshes, s_images_0_kept, s_images_0_books_count, s_images_0_sheets_count, s_images_0_known_count, s_images_0_weights, s_images_0_books_cells, s_images_0_books_froms, s_images_0_books_tos, s_images_0_books_lows, s_images_0_books_highs, s_images_0_sheets_marshes, s_images_0_sheets_olds, s_images_0_sheets_youngs, s_images_0_known_years, s_images_1_dugMarshes, s_images_1_kept, s_images_1_books_count, s_images_1_sheets_count, s_images_1_known_count, s_images_1_weights, s_images_1_books_cells, s_images_1_books_froms, s_images_1_books_tos, s_images_1_books_lows, s_images_1_books_highs, s_images_1_sheets_marshes, s_images_1_sheets_olds, s_images_1_sheets_youngs, s_images_1_known_years))
    (pbr (x1 = (0 : Int32))
      (pcl (f_X2_become s_images_0_dugMarshes s_found_dugMarshes s_images_0_books_count s_found_books_count s_found_books_cells s_images_0_books_cells s_found_books_froms s_images_0_books_froms s_found_books_tos s_images_0_books_tos s_found_books_lows s_images_0_books_lows s_found_books_highs s_images_0_books_highs s_images_0_sheets_count s_found_sheets_count s_found_sheets_marshes s_images_0_sheets_marshes s_found_sheets_olds s_images_0_sheets_olds s_found_sheets_youngs s_images_0_sheets_youngs s_images_0_known_count s_found_known_count s_found_known_years s_images_0_known_years s_found_weights s_images_0_weights) (fun (dugMarshes_5, books_count_6, books_cells_7, books_froms_8, books_tos_9, books_lows_10, books_highs_11, sheets_count_12, sheets_marshes_13, sheets_olds_14, sheets_youngs_15, known_count_16, known_years_17, weights_18) => (
      pbr (x1 = (0 : Int32))
        (some (s_found_sheets_count, dugMarshes_5, (1 : Int32), books_count_6, sheets_count_12, known_count_16, weights_18, books_cells_7, books_froms_8, books_tos_9, books_lows_10, books_highs_11, sheets_marshes_13, sheets_olds_14, sheets_youngs_15, known_years_17, s_images_1_dugMarshes, s_images_1_kept, s_images_1_books_count, s_images_1_sheets_count, s_images_1_known_count, s_images_1_weights, s_images_1_books_cells, s_images_1_books_froms, s_images_1_books_tos, s_images_1_books_lows, s_images_1_books_highs, s_images_1_sheets_marshes, s_images_1_sheets_olds, s_images_1_sheets_youngs, s_images_1_known_years))
      (pbr (x1 = (1 : Int32))
        (some (s_found_sheets_count, dugMarshes_5, s_images_0_kept, books_count_6, sheets_count_12, known_count_16, weights_18, books_cells_7, books_froms_8, books_tos_9, books_lows_10, books_highs_11, sheets_marshes_13, sheets_olds_14, sheets_youngs_15, known_years_17, s_images_1_dugMarshes, (1 : Int32), s_images_1_books_count, s_images_1_sheets_count, s_images_1_known_count, s_images_1_weights, s_images_1_books_cells, s_images_1_books_froms, s_images_1_books_tos, s_images_1_books_lows, s_images_1_books_highs, s_images_1_sheets_marshes, s_images_1_sheets_olds, s_images_1_sheets_youngs, s_images_1_known_years))
      (none)))))
    (pbr (x1 = (1 : Int32))
      (pcl (f_X2_become s_images_1_dugMarshes s_found_dugMarshes s_images_1_books_count s_found_books_count s_found_books_cells s_images_1_books_cells s_found_books_froms s_images_1_books_froms s_found_books_tos s_images_1_books_tos s_found_books_lows s_images_1_books_lows s_found_books_highs s_images_1_books_highs s_images_1_sheets_count s_found_sheets_count s_found_sheets_marshes s_images_1_sheets_marshes s_found_sheets_olds s_images_1_sheets_olds s_found_sheets_youngs s_images_1_sheets_youngs s_images_1_known_count s_found_known_count s_found_known_years s_images_1_known_years s_found_weights s_images_1_weights) (fun (dugMarshes_23, books_count_24, books_cells_25, books_froms_26, books_tos_27, books_lows_28, books_highs_29, sheets_count_30, sheets_marshes_31, sheets_olds_32, sheets_youngs_33, known_count_34, known_years_35, weights_36) => (
      pbr (x1 = (0 : Int32))
        (some (s_found_sheets_count, s_images_0_dugMarshes, (1 : Int32), s_images_0_books_count, s_images_0_sheets_count, s_images_0_known_count, s_images_0_weights, s_images_0_books_cells, s_images_0_books_froms, s_images_0_books_tos, s_images_0_books_lows, s_images_0_books_highs, s_images_0_sheets_marshes, s_images_0_sheets_olds, s_images_0_sheets_youngs, s_images_0_known_years, dugMarshes_23, s_images_1_kept, books_count_24, sheets_count_30, known_count_34, weights_36, books_cells_25, books_froms_26, books_tos_27, books_lows_28, books_highs_29, sheets_marshes_31, sheets_olds_32, sheets_youngs_33, known_years_35))
      (pbr (x1 = (1 : Int32))
        (some (s_found_sheets_count, s_images_0_dugMarshes, s_images_0_kept, s_images_0_books_count, s_images_0_sheets_count, s_images_0_known_count, s_images_0_weights, s_images_0_books_cells, s_images_0_books_froms, s_images_0_books_tos, s_images_0_books_lows, s_images_0_books_highs, s_images_0_sheets_marshes, s_images_0_sheets_olds, s_images_0_sheets_youngs, s_images_0_known_years, dugMarshes_23, (1 : Int32), books_count_24, sheets_count_30, known_count_34, weights_36, books_cells_25, books_froms_26, books_tos_27, books_lows_28, books_highs_29, sheets_marshes_31, sheets_olds_32, sheets_youngs_33, known_years_35))
      (none)))))
    (none)))))

set_option maxRecDepth 100000 in
set_option maxHeartbeats 4000000 in
theorem ct_X11_keep (l : Launch) (D : va_G) (cA : Nat → ClassId) (x1 : Int32) (a0 : Nat) (q_images : Nat) (q_images_0 : Nat) (q_found : Nat) (q_images_0_books : Nat) (q_found_books : Nat) (q_images_0_sheets : Nat) (q_found_sheets : Nat) (q_images_0_known : Nat) (q_found_known : Nat) (q_found_weights : Nat) (q_images_0_weights : Nat) (q_found_books_cells : Nat) (q_images_0_books_cells : Nat) (q_found_books_froms : Nat) (q_images_0_books_froms : Nat) (q_found_books_tos : Nat) (q_images_0_books_tos : Nat) (q_found_books_lows : Nat) (q_images_0_books_lows : Nat) (q_found_books_highs : Nat) (q_images_0_books_highs : Nat) (q_found_sheets_marshes : Nat) (q_images_0_sheets_marshes : Nat) (q_found_sheets_olds : Nat) (q_images_0_sheets_olds : Nat) (q_found_sheets_youngs : Nat) (q_images_0_sheets_youngs : Nat) (q_found_known_years : Nat) (q_images_0_known_years : Nat) (q_images_1 : Nat) (q_images_1_books : Nat) (q_images_1_sheets : Nat) (q_images_1_known : Nat) (q_images_1_weights : Nat) (q_images_1_books_cells : Nat) (q_images_1_books_froms : Nat) (q_images_1_books_tos : Nat) (q_images_1_books_lows : Nat) (q_images_1_books_highs : Nat) (q_images_1_sheets_marshes : Nat) (q_images_1_sheets_olds : Nat) (q_images_1_sheets_youngs : Nat) (q_images_1_known_years : Nat) (q_text : Nat) (q_ocean : Nat) (q_trees : Nat) (q_search : Nat) (q_stories : Nat) (q_signs : Nat) (q_calendar : Nat) (q_draft : Nat) (s_yearOfNow : Int32) (s_images_0_dugMarshes : Int32) (s_images_0_kept : Int32) (s_found_dugMarshes : Int32) (s_found_kept : Int32) (s_images_0_books_count : Int32) (s_found_books_count : Int32) (s_images_0_sheets_count : Int32) (s_found_sheets_count : Int32) (s_images_0_known_count : Int32) (s_found_known_count : Int32) (s_found_weights : Nat → Int64) (s_images_0_weights : Nat → Int64) (s_found_books_cells : Nat → Int32) (s_images_0_books_cells : Nat → Int32) (s_found_books_froms : Nat → Int32) (s_images_0_books_froms : Nat → Int32) (s_found_books_tos : Nat → Int32) (s_images_0_books_tos : Nat → Int32) (s_found_books_lows : Nat → Int32) (s_images_0_books_lows : Nat → Int32) (s_found_books_highs : Nat → Int32) (s_images_0_books_highs : Nat → Int32) (s_found_sheets_marshes : Nat → Int32) (s_images_0_sheets_marshes : Nat → Int32) (s_found_sheets_olds : Nat → Int32) (s_images_0_sheets_olds : Nat → Int32) (s_found_sheets_youngs : Nat → Int32) (s_images_0_sheets_youngs : Nat → Int32) (s_found_known_years : Nat → Int32) (s_images_0_known_years : Nat → Int32) (s_images_1_dugMarshes : Int32) (s_images_1_kept : Int32) (s_images_1_books_count : Int32) (s_images_1_sheets_count : Int32) (s_images_1_known_count : Int32) (s_images_1_weights : Nat → Int64) (s_images_1_books_cells : Nat → Int32) (s_images_1_books_froms : Nat → Int32) (s_images_1_books_tos : Nat → Int32) (s_images_1_books_lows : Nat → Int32) (s_images_1_books_highs : Nat → Int32) (s_images_1_sheets_marshes : Nat → Int32) (s_images_1_sheets_olds : Nat → Int32) (s_images_1_sheets_youngs : Nat → Int32) (s_images_1_known_years : Nat → Int32) (o_r : Int32) (o_images_0_dugMarshes : Int32) (o_images_0_kept : Int32) (o_images_0_books_count : Int32) (o_images_0_sheets_count : Int32) (o_images_0_known_count : Int32) (o_images_0_weights : Nat → Int64) (o_images_0_books_cells : Nat → Int32) (o_images_0_books_froms : Nat → Int32) (o_images_0_books_tos : Nat → Int32) (o_images_0_books_lows : Nat → Int32) (o_images_0_books_highs : Nat → Int32) (o_images_0_sheets_marshes : Nat → Int32) (o_images_0_sheets_olds : Nat → Int32) (o_images_0_sheets_youngs : Nat → Int32) (o_images_0_known_years : Nat → Int32) (o_images_1_dugMarshes : Int32) (o_images_1_kept : Int32) (o_images_1_books_count : Int32) (o_images_1_sheets_count : Int32) (o_images_1_known_count : Int32) (o_images_1_weights : Nat → Int64) (o_images_1_books_cells : Nat → Int32) (o_images_1_books_froms : Nat → Int32) (o_images_1_books_tos : Nat → Int32) (o_images_1_books_lows : Nat → Int32) (o_images_1_books_highs : Nat → Int32) (o_images_1_sheets_marshes : Nat → Int32) (o_images_1_sheets_olds : Nat → Int32) (o_images_1_sheets_youngs : Nat → Int32) (o_images_1_known_years : Nat → Int32) (hf : f_X11_keep x1 s_images_0_dugMarshes s_images_0_kept s_found_dugMarshes s_images_0_books_count s_found_books_count s_images_0_sheets_count s_found_sheets_count s_images_0_known_count s_found_known_count s_found_weights s_images_0_weights s_found_books_cells s_images_0_books_cells s_found_books_froms s_images_0_books_froms s_found_books_tos s_images_0_books_tos s_found_books_lows s_images_0_books_lows s_found_books_highs s_images_0_books_highs s_found_sheets_marshes s_images_0_sheets_marshes s_found_sheets_olds s_images_0_sheets_olds s_found_sheets_youngs s_images_0_sheets_youngs s_found_known_years s_images_0_known_years s_images_1_dugMarshes s_images_1_kept s_images_1_books_count s_images_1_sheets_count s_images_1_known_count s_images_1_weights s_images_1_books_cells s_images_1_books_froms s_images_1_books_tos s_images_1_books_lows s_images_1_books_highs s_images_1_sheets_marshes s_images_1_sheets_olds s_images_1_sheets_youngs s_images_1_known_years = some (o_r, o_images_0_dugMarshes, o_images_0_kept, o_images_0_books_count, o_images_0_sheets_count, o_images_0_known_count, o_images_0_weights, o_images_0_books_cells, o_images_0_books_froms, o_images_0_books_tos, o_images_0_books_lows, o_images_0_books_highs, o_images_0_sheets_marshes, o_images_0_sheets_olds, o_images_0_sheets_youngs, o_images_0_known_years, o_images_1_dugMarshes, o_images_1_kept, o_images_1_books_count, o_images_1_sheets_count, o_images_1_known_count, o_images_1_weights, o_images_1_books_cells, o_images_1_books_froms, o_images_1_books_tos, o_images_1_books_lows, o_images_1_books_highs, o_images_1_sheets_marshes, o_images_1_sheets_olds, o_images_1_sheets_youngs, o_images_1_known_years)) : CT l yX11_keep wsX11_keep rm_X11_keep D cA [.ref a0, .int x1] (w_X11_keep a0 q_images q_images_0 q_found q_images_0_books q_found_books q_images_0_sheets q_found_sheets q_images_0_known q_found_known q_found_weights q_images_0_weights q_found_books_cells q_images_0_books_cells q_found_books_froms q_images_0_books_froms q_found_books_tos q_images_0_books_tos q_found_books_lows q_images_0_books_lows q_found_books_highs q_images_0_books_highs q_found_sheets_marshes q_images_0_sheets_marshes q_found_sheets_olds q_images_0_sheets_olds q_found_sheets_youngs q_images_0_sheets_youngs q_found_known_years q_images_0_known_years q_images_1 q_images_1_books q_images_1_sheets q_images_1_known q_images_1_weights q_images_1_books_cells q_images_1_books_froms q_images_1_books_tos q_images_1_books_lows q_images_1_books_highs q_images_1_sheets_marshes q_images_1_sheets_olds q_images_1_sheets_youngs q_images_1_known_years q_text q_ocean q_trees q_search q_stories q_signs q_calendar q_draft cA s_yearOfNow s_images_0_dugMarshes s_images_0_kept s_found_dugMarshes s_found_kept s_images_0_books_count s_found_books_count s_images_0_sheets_count s_found_sheets_count s_images_0_known_count s_found_known_count s_found_weights s_images_0_weights s_found_books_cells s_images_0_books_cells s_found_books_froms s_images_0_books_froms s_found_books_tos s_images_0_books_tos s_found_books_lows s_images_0_books_lows s_found_books_highs s_images_0_books_highs s_found_sheets_marshes s_images_0_sheets_marshes s_found_sheets_olds s_images_0_sheets_olds s_found_sheets_youngs s_images_0_sheets_youngs s_found_known_years s_images_0_known_years s_images_1_dugMarshes s_images_1_kept s_images_1_books_count s_images_1_sheets_count s_images_1_known_count s_images_1_weights s_images_1_books_cells s_images_1_books_froms s_images_1_books_tos s_images_1_books_lows s_images_1_books_highs s_images_1_sheets_marshes s_images_1_sheets_olds s_images_1_sheets_youngs s_images_1_known_years) (w_X11_keep a0 q_images q_images_0 q_found q_images_0_books q_found_books q_images_0_sheets q_found_sheets q_images_0_known q_found_known q_found_weights q_images_0_weights q_found_books_cells q_images_0_books_cells q_found_books_froms q_images_0_books_froms q_found_books_tos q_images_0_books_tos q_found_books_lows q_images_0_books_lows q_found_books_highs q_images_0_books_highs q_found_sheets_marshes q_images_0_sheets_marshes q_found_sheets_olds q_images_0_sheets_olds q_found_sheets_youngs q_images_0_sheets_youngs q_found_known_years q_images_0_known_years q_images_1 q_images_1_books q_images_1_sheets q_images_1_known q_images_1_weights q_images_1_books_cells q_images_1_books_froms q_images_1_books_tos q_images_1_books_lows q_images_1_books_highs q_images_1_sheets_marshes q_images_1_sheets_olds q_images_1_sheets_youngs q_images_1_known_years q_text q_ocean q_trees q_search q_stories q_signs q_calendar q_draft cA s_yearOfNow o_images_0_dugMarshes o_images_0_kept s_found_dugMarshes s_found_kept o_images_0_books_count s_found_books_count o_images_0_sheets_count s_found_sheets_count o_images_0_known_count s_found_known_count s_found_weights o_images_0_weights s_found_books_cells o_images_0_books_cells s_found_books_froms o_images_0_books_froms s_found_books_tos o_images_0_books_tos s_found_books_lows o_images_0_books_lows s_found_books_highs o_images_0_books_highs s_found_sheets_marshes o_images_0_sheets_marshes s_found_sheets_olds o_images_0_sheets_olds s_found_sheets_youngs o_images_0_sheets_youngs s_found_known_years o_images_0_known_years o_images_1_dugMarshes o_images_1_kept o_images_1_books_count o_images_1_sheets_count o_images_1_known_count o_images_1_weights o_images_1_books_cells o_images_1_books_froms o_images_1_books_tos o_images_1_books_lows o_images_1_books_highs o_images_1_sheets_marshes o_images_1_sheets_olds o_images_1_sheets_youngs o_images_1_known_years) (some (.int o_r)) := by
  refine CT.ofW (cc := cX11_keep) (maxL := 2) (ret := (some .int)) (by decide +kernel) rfl (Nat.le_of_ble_eq_true rfl) ?_
  intro p e s m below meth c A C0 hA hP hD ls hl
  have C0 : MX p s m [.ref a0, .int x1].toArray meth c cX11_keep 2 wsX11_keep RX11 (some .int) D cA := C0
  have hl : lv_has ls 2 [(0, .ref a0), (1, .int x1)] := hl
  obtain ⟨hx, hb, hml, hown, hts, hr, hlocks, hX⟩ := id C0
  have hK := hX.1
  have hN := hX.2
  have hS : va_S A s.heap s.heap [] := va_S.rf
  unfold f_X11_keep at hf
  refine lv_iload_n hx hb dX11_keep_0 rfl (lv_at hl 1 rfl) ?_
  obtain ⟨r_1, hc_2, hf⟩ := pcl_e hf
  refine m_callS (As := [.int x1]) (rest := []) ⟨hx, hb, hml, hown, hts⟩ hX (ct_X11_isImage l D cA x1 r_1 hc_2) (va_cwS 1 hts gX11_keep_X11_isImage rfl rfl rfl (by decide +kernel) ⟨Nat.le_of_ble_eq_true rfl, Nat.le_of_ble_eq_true rfl⟩) hP hD hS hA [] (by decide) rfl rfl (WS' := (w_X11_keep a0 q_images q_images_0 q_found q_images_0_books q_found_books q_images_0_sheets q_found_sheets q_images_0_known q_found_known q_found_weights q_images_0_weights q_found_books_cells q_images_0_books_cells q_found_books_froms q_images_0_books_froms q_found_books_tos q_images_0_books_tos q_found_books_lows q_images_0_books_lows q_found_books_highs q_images_0_books_highs q_found_sheets_marshes q_images_0_sheets_marshes q_found_sheets_olds q_images_0_sheets_olds q_found_sheets_youngs q_images_0_sheets_youngs q_found_known_years q_images_0_known_years q_images_1 q_images_1_books q_images_1_sheets q_images_1_known q_images_1_weights q_images_1_books_cells q_images_1_books_froms q_images_1_books_tos q_images_1_books_lows q_images_1_books_highs q_images_1_sheets_marshes q_images_1_sheets_olds q_images_1_sheets_youngs q_images_1_known_years q_text q_ocean q_trees q_search q_stories q_signs q_calendar q_draft cA s_yearOfNow s_images_0_dugMarshes s_images_0_kept s_found_dugMarshes s_found_kept s_images_0_books_count s_found_books_count s_images_0_sheets_count s_found_sheets_count s_images_0_known_count s_found_known_count s_found_weights s_images_0_weights s_found_books_cells s_images_0_books_cells s_found_books_froms s_images_0_books_froms s_found_books_tos s_images_0_books_tos s_found_books_lows s_images_0_books_lows s_found_books_highs s_images_0_books_highs s_found_sheets_marshes s_images_0_sheets_marshes s_found_sheets_olds s_images_0_sheets_olds s_found_sheets_youngs s_images_0_sheets_youngs s_found_known_years s_images_0_known_years s_images_1_dugMarshes s_images_1_kept s_images_1_books_count s_images_1_sheets_count s_images_1_known_count s_images_1_weights s_images_1_books_cells s_images_1_books_froms s_images_1_books_tos s_images_1_books_lows s_images_1_books_highs s_images_1_sheets_marshes s_images_1_sheets_olds s_images_1_sheets_youngs s_images_1_known_years)) rfl rfl hl.1 rfl (st' := [.int r_1]) rfl (Nat.le_of_ble_eq_true rfl) ⟨Nat.zero_le _, Nat.zero_le _⟩ dX11_keep_1 (fun H locs hP hD hS => ?_)
  refine lv_if_ne (tgt := 9) hx hb dX11_keep_4 (by decide) (fun c_3 => ?_) (fun c_3 => ?_)
  · have hf := pbr_f c_3 hf
    refine lv_aload_n hx hb dX11_keep_9 rfl (lv_at hl 0 rfl) ?_
    refine va_get (D := D) (ci := 11) (v := .ref q_images) (C := RX11) (T := TX11) (N := 11) hx hb hts hn_X11_keep_X11 hown hK hP 0 rfl rfl 4 (by decide) (hts _ hw_X11_keep_f37) (fun _ h9 => h9) rfl dX11_keep_10 ?_
    refine lv_iload_n hx hb dX11_keep_13 rfl (lv_at hl 1 rfl) ?_
    by_cases c_4 : x1 = (0 : Int32)
    · have hf := pbr_t c_4 hf
      refine va_aldq (C := "OrphanWave$Findings") (i := x1) hx hb hK hP 1 4 rfl rfl (by rw [c_4]; decide +kernel) dX11_keep_14 ?_
      rw [show va_rf (vi2 q_images_0 q_images_1 (Int32.toNatClampNeg x1)) = .ref q_images_0 by rw [c_4]; rfl]
      refine lv_aload_n hx hb dX11_keep_15 rfl (lv_at hl 0 rfl) ?_
      refine va_get (D := D) (ci := 11) (v := .ref q_found) (C := RX11) (T := TX11) (N := 11) hx hb hts hn_X11_keep_X11 hown hK hP 0 rfl rfl 3 (by decide) (hts _ hw_X11_keep_f33) (fun _ h9 => h9) rfl dX11_keep_16 ?_
      obtain ⟨⟨dugMarshes_5, books_count_6, books_cells_7, books_froms_8, books_tos_9, books_lows_10, books_highs_11, sheets_count_12, sheets_marshes_13, sheets_olds_14, sheets_youngs_15, known_count_16, known_years_17, weights_18⟩, hc_19, hf⟩ := pcl_e hf
      refine m_callV (As := [.ref q_found]) (rest := []) ⟨hx, hb, hml, hown, hts⟩ hX (ct_X2_become l D cA q_images_0 q_found q_images_0_books q_found_books q_found_books_cells q_images_0_books_cells q_found_books_froms q_images_0_books_froms q_found_books_tos q_images_0_books_tos q_found_books_lows q_images_0_books_lows q_found_books_highs q_images_0_books_highs q_images_0_sheets q_found_sheets q_found_sheets_marshes q_images_0_sheets_marshes q_found_sheets_olds q_images_0_sheets_olds q_found_sheets_youngs q_images_0_sheets_youngs q_images_0_known q_found_known q_found_known_years q_images_0_known_years q_found_weights q_images_0_weights s_images_0_dugMarshes s_images_0_kept s_found_dugMarshes s_found_kept s_images_0_books_count s_found_books_count s_found_books_cells s_images_0_books_cells s_found_books_froms s_images_0_books_froms s_found_books_tos s_images_0_books_tos s_found_books_lows s_images_0_books_lows s_found_books_highs s_images_0_books_highs s_images_0_sheets_count s_found_sheets_count s_found_sheets_marshes s_images_0_sheets_marshes s_found_sheets_olds s_images_0_sheets_olds s_found_sheets_youngs s_images_0_sheets_youngs s_images_0_known_count s_found_known_count s_found_known_years s_images_0_known_years s_found_weights s_images_0_weights dugMarshes_5 books_count_6 books_cells_7 books_froms_8 books_tos_9 books_lows_10 books_highs_11 sheets_count_12 sheets_marshes_13 sheets_olds_14 sheets_youngs_15 known_count_16 known_years_17 weights_18 hc_19) (cwV 1 hts gX11_keep_X2_become rfl rfl rfl (by decide +kernel) ⟨Nat.le_of_ble_eq_true rfl, Nat.le_of_ble_eq_true rfl⟩) hP hD hS hA [2, 3, 4, 5, 12, 13, 14, 15, 16, 17, 18, 19, 20, 21, 6, 7, 22, 23, 24, 25, 26, 27, 8, 9, 28, 29, 10, 11] (by decide) rfl rfl (WS' := (w_X11_keep a0 q_images q_images_0 q_found q_images_0_books q_found_books q_images_0_sheets q_found_sheets q_images_0_known q_found_known q_found_weights q_images_0_weights q_found_books_cells q_images_0_books_cells q_found_books_froms q_images_0_books_froms q_found_books_tos q_images_0_books_tos q_found_books_lows q_images_0_books_lows q_found_books_highs q_images_0_books_highs q_found_sheets_marshes q_images_0_sheets_marshes q_found_sheets_olds q_images_0_sheets_olds q_found_sheets_youngs q_images_0_sheets_youngs q_found_known_years q_images_0_known_years q_images_1 q_images_1_books q_images_1_sheets q_images_1_known q_images_1_weights q_images_1_books_cells q_images_1_books_froms q_images_1_books_tos q_images_1_books_lows q_images_1_books_highs q_images_1_sheets_marshes q_images_1_sheets_olds q_images_1_sheets_youngs q_images_1_known_years q_text q_ocean q_trees q_search q_stories q_signs q_calendar q_draft cA s_yearOfNow dugMarshes_5 s_images_0_kept s_found_dugMarshes s_found_kept books_count_6 s_found_books_count sheets_count_12 s_found_sheets_count known_count_16 s_found_known_count s_found_weights weights_18 s_found_books_cells books_cells_7 s_found_books_froms books_froms_8 s_found_books_tos books_tos_9 s_found_books_lows books_lows_10 s_found_books_highs books_highs_11 s_found_sheets_marshes sheets_marshes_13 s_found_sheets_olds sheets_olds_14 s_found_sheets_youngs sheets_youngs_15 s_found_known_years known_years_17 s_images_1_dugMarshes s_images_1_kept s_images_1_books_count s_images_1_sheets_count s_images_1_known_count s_images_1_weights s_images_1_books_cells s_images_1_books_froms s_images_1_books_tos s_images_1_books_lows s_images_1_books_highs s_images_1_sheets_marshes s_images_1_sheets_olds s_images_1_sheets_youngs s_images_1_known_years)) rfl 2 2 rfl rfl rfl hl.1 rfl (st' := []) rfl (Nat.le_of_ble_eq_true rfl) ⟨Nat.zero_le _, Nat.zero_le _⟩ dX11_keep_19 (fun H locs hP hD hS => ?_)
      refine lv_aload_n hx hb dX11_keep_22 rfl (lv_at hl 0 rfl) ?_
      refine va_get (D := D) (ci := 11) (v := .ref q_images) (C := RX11) (T := TX11) (N := 11) hx hb hts hn_X11_keep_X11 hown hK hP 0 rfl rfl 4 (by decide) (hts _ hw_X11_keep_f37) (fun _ h9 => h9) rfl dX11_keep_23 ?_
      refine lv_iload_n hx hb dX11_keep_26 rfl (lv_at hl 1 rfl) ?_
      by_cases c_20 : x1 = (0 : Int32)
      · have hf := pbr_t c_20 hf
        refine va_aldq (C := "OrphanWave$Findings") (i := x1) hx hb hK hP 1 4 rfl rfl (by rw [c_20]; decide +kernel) dX11_keep_27 ?_
        rw [show va_rf (vi2 q_images_0 q_images_1 (Int32.toNatClampNeg x1)) = .ref q_images_0 by rw [c_20]; rfl]
        refine lv_iconst (v := (1 : Int32)) hx hb dX11_keep_28 (by decide) ?_
        refine va_putN (D := D) (ci := 2) (v := .int (1 : Int32)) (ty := .boolean) (C := RX2) (T := TX2) (N := 6) hx hb hts hn_X11_keep_X2 tyX2 tyX2_ok nmX2 hown hK hP hD hS 2 rfl rfl 5 (by decide) (va_Nw.use rfl (hN _ nw_X11_369)) (fun _ h9 => h9) rfl (by decide +kernel) rfl rfl (Nat.le_of_ble_eq_true rfl) dX11_keep_29 (fun H locs hP hD hS => ?_)
        have hP : va_P D vwCl (w_X11_keep a0 q_images q_images_0 q_found q_images_0_books q_found_books q_images_0_sheets q_found_sheets q_images_0_known q_found_known q_found_weights q_images_0_weights q_found_books_cells q_images_0_books_cells q_found_books_froms q_images_0_books_froms q_found_books_tos q_images_0_books_tos q_found_books_lows q_images_0_books_lows q_found_books_highs q_images_0_books_highs q_found_sheets_marshes q_images_0_sheets_marshes q_found_sheets_olds q_images_0_sheets_olds q_found_sheets_youngs q_images_0_sheets_youngs q_found_known_years q_images_0_known_years q_images_1 q_images_1_books q_images_1_sheets q_images_1_known q_images_1_weights q_images_1_books_cells q_images_1_books_froms q_images_1_books_tos q_images_1_books_lows q_images_1_books_highs q_images_1_sheets_marshes q_images_1_sheets_olds q_images_1_sheets_youngs q_images_1_known_years q_text q_ocean q_trees q_search q_stories q_signs q_calendar q_draft cA s_yearOfNow dugMarshes_5 (1 : Int32) s_found_dugMarshes s_found_kept books_count_6 s_found_books_count sheets_count_12 s_found_sheets_count known_count_16 s_found_known_count s_found_weights weights_18 s_found_books_cells books_cells_7 s_found_books_froms books_froms_8 s_found_books_tos books_tos_9 s_found_books_lows books_lows_10 s_found_books_highs books_highs_11 s_found_sheets_marshes sheets_marshes_13 s_found_sheets_olds sheets_olds_14 s_found_sheets_youngs sheets_youngs_15 s_found_known_years known_years_17 s_images_1_dugMarshes s_images_1_kept s_images_1_books_count s_images_1_sheets_count s_images_1_known_count s_images_1_weights s_images_1_books_cells s_images_1_books_froms s_images_1_books_tos s_images_1_books_lows s_images_1_books_highs s_images_1_sheets_marshes s_images_1_sheets_olds s_images_1_sheets_youngs s_images_1_known_years) H := hP
        have hD : va_D A (w_X11_keep a0 q_images q_images_0 q_found q_images_0_books q_found_books q_images_0_sheets q_found_sheets q_images_0_known q_found_known q_found_weights q_images_0_weights q_found_books_cells q_images_0_books_cells q_found_books_froms q_images_0_books_froms q_found_books_tos q_images_0_books_tos q_found_books_lows q_images_0_books_lows q_found_books_highs q_images_0_books_highs q_found_sheets_marshes q_images_0_sheets_marshes q_found_sheets_olds q_images_0_sheets_olds q_found_sheets_youngs q_images_0_sheets_youngs q_found_known_years q_images_0_known_years q_images_1 q_images_1_books q_images_1_sheets q_images_1_known q_images_1_weights q_images_1_books_cells q_images_1_books_froms q_images_1_books_tos q_images_1_books_lows q_images_1_books_highs q_images_1_sheets_marshes q_images_1_sheets_olds q_images_1_sheets_youngs q_images_1_known_years q_text q_ocean q_trees q_search q_stories q_signs q_calendar q_draft cA s_yearOfNow dugMarshes_5 (1 : Int32) s_found_dugMarshes s_found_kept books_count_6 s_found_books_count sheets_count_12 s_found_sheets_count known_count_16 s_found_known_count s_found_weights weights_18 s_found_books_cells books_cells_7 s_found_books_froms books_froms_8 s_found_books_tos books_tos_9 s_found_books_lows books_lows_10 s_found_books_highs books_highs_11 s_found_sheets_marshes sheets_marshes_13 s_found_sheets_olds sheets_olds_14 s_found_sheets_youngs sheets_youngs_15 s_found_known_years known_years_17 s_images_1_dugMarshes s_images_1_kept s_images_1_books_count s_images_1_sheets_count s_images_1_known_count s_images_1_weights s_images_1_books_cells s_images_1_books_froms s_images_1_books_tos s_images_1_books_lows s_images_1_books_highs s_images_1_sheets_marshes s_images_1_sheets_olds s_images_1_sheets_youngs s_images_1_known_years) := hD
        refine lv_aload_n hx hb dX11_keep_32 rfl (lv_at hl 0 rfl) ?_
        refine va_get (D := D) (ci := 11) (v := .ref q_found) (C := RX11) (T := TX11) (N := 11) hx hb hts hn_X11_keep_X11 hown hK hP 0 rfl rfl 3 (by decide) (hts _ hw_X11_keep_f33) (fun _ h9 => h9) rfl dX11_keep_33 ?_
        refine va_getN (D := D) (ci := 2) (v := .ref q_found_sheets) (C := RX2) (T := TX2) (N := 6) hx hb hts hn_X11_keep_X2 hown hK hP 3 rfl rfl 1 (by decide) (va_Nw.use rfl (hN _ nw_X11_250)) (fun _ h9 => h9) rfl dX11_keep_36 ?_
        refine va_getN (D := D) (ci := 6) (v := .int s_found_sheets_count) (C := RX6) (T := TX6) (N := 4) hx hb hts hn_X11_keep_X6 hown hK hP 7 rfl rfl 3 (by decide) (va_Nw.use rfl (hN _ nw_X11_254)) (fun _ h9 => h9) rfl dX11_keep_39 ?_
        cases hf
        exact m_iret hx hb hr hlocks hP hS dX11_keep_42
      have hf := pbr_f c_20 hf
      by_cases c_21 : x1 = (1 : Int32)
      · have hf := pbr_t c_21 hf
        refine va_aldq (C := "OrphanWave$Findings") (i := x1) hx hb hK hP 1 4 rfl rfl (by rw [c_21]; decide +kernel) dX11_keep_27 ?_
        rw [show va_rf (vi2 q_images_0 q_images_1 (Int32.toNatClampNeg x1)) = .ref q_images_1 by rw [c_21]; rfl]
        refine lv_iconst (v := (1 : Int32)) hx hb dX11_keep_28 (by decide) ?_
        refine va_putN (D := D) (ci := 2) (v := .int (1 : Int32)) (ty := .boolean) (C := RX2) (T := TX2) (N := 6) hx hb hts hn_X11_keep_X2 tyX2 tyX2_ok nmX2 hown hK hP hD hS 30 rfl rfl 5 (by decide) (va_Nw.use rfl (hN _ nw_X11_369)) (fun _ h9 => h9) rfl (by decide +kernel) rfl rfl (Nat.le_of_ble_eq_true rfl) dX11_keep_29 (fun H locs hP hD hS => ?_)
        have hP : va_P D vwCl (w_X11_keep a0 q_images q_images_0 q_found q_images_0_books q_found_books q_images_0_sheets q_found_sheets q_images_0_known q_found_known q_found_weights q_images_0_weights q_found_books_cells q_images_0_books_cells q_found_books_froms q_images_0_books_froms q_found_books_tos q_images_0_books_tos q_found_books_lows q_images_0_books_lows q_found_books_highs q_images_0_books_highs q_found_sheets_marshes q_images_0_sheets_marshes q_found_sheets_olds q_images_0_sheets_olds q_found_sheets_youngs q_images_0_sheets_youngs q_found_known_years q_images_0_known_years q_images_1 q_images_1_books q_images_1_sheets q_images_1_known q_images_1_weights q_images_1_books_cells q_images_1_books_froms q_images_1_books_tos q_images_1_books_lows q_images_1_books_highs q_images_1_sheets_marshes q_images_1_sheets_olds q_images_1_sheets_youngs q_images_1_known_years q_text q_ocean q_trees q_search q_stories q_signs q_calendar q_draft cA s_yearOfNow dugMarshes_5 s_images_0_kept s_found_dugMarshes s_found_kept books_count_6 s_found_books_count sheets_count_12 s_found_sheets_count known_count_16 s_found_known_count s_found_weights weights_18 s_found_books_cells books_cells_7 s_found_books_froms books_froms_8 s_found_books_tos books_tos_9 s_found_books_lows books_lows_10 s_found_books_highs books_highs_11 s_found_sheets_marshes sheets_marshes_13 s_found_sheets_olds sheets_olds_14 s_found_sheets_youngs sheets_youngs_15 s_found_known_years known_years_17 s_images_1_dugMarshes (1 : Int32) s_images_1_books_count s_images_1_sheets_count s_images_1_known_count s_images_1_weights s_images_1_books_cells s_images_1_books_froms s_images_1_books_tos s_images_1_books_lows s_images_1_books_highs s_images_1_sheets_marshes s_images_1_sheets_olds s_images_1_sheets_youngs s_images_1_known_years) H := hP
        have hD : va_D A (w_X11_keep a0 q_images q_images_0 q_found q_images_0_books q_found_books q_images_0_sheets q_found_sheets q_images_0_known q_found_known q_found_weights q_images_0_weights q_found_books_cells q_images_0_books_cells q_found_books_froms q_images_0_books_froms q_found_books_tos q_images_0_books_tos q_found_books_lows q_images_0_books_lows q_found_books_highs q_images_0_books_highs q_found_sheets_marshes q_images_0_sheets_marshes q_found_sheets_olds q_images_0_sheets_olds q_found_sheets_youngs q_images_0_sheets_youngs q_found_known_years q_images_0_known_years q_images_1 q_images_1_books q_images_1_sheets q_images_1_known q_images_1_weights q_images_1_books_cells q_images_1_books_froms q_images_1_books_tos q_images_1_books_lows q_images_1_books_highs q_images_1_sheets_marshes q_images_1_sheets_olds q_images_1_sheets_youngs q_images_1_known_years q_text q_ocean q_trees q_search q_stories q_signs q_calendar q_draft cA s_yearOfNow dugMarshes_5 s_images_0_kept s_found_dugMarshes s_found_kept books_count_6 s_found_books_count sheets_count_12 s_found_sheets_count known_count_16 s_found_known_count s_found_weights weights_18 s_found_books_cells books_cells_7 s_found_books_froms books_froms_8 s_found_books_tos books_tos_9 s_found_books_lows books_lows_10 s_found_books_highs books_highs_11 s_found_sheets_marshes sheets_marshes_13 s_found_sheets_olds sheets_olds_14 s_found_sheets_youngs sheets_youngs_15 s_found_known_years known_years_17 s_images_1_dugMarshes (1 : Int32) s_images_1_books_count s_images_1_sheets_count s_images_1_known_count s_images_1_weights s_images_1_books_cells s_images_1_books_froms s_images_1_books_tos s_images_1_books_lows s_images_1_books_highs s_images_1_sheets_marshes s_images_1_sheets_olds s_images_1_sheets_youngs s_images_1_known_years) := hD
        refine lv_aload_n hx hb dX11_keep_32 rfl (lv_at hl 0 rfl) ?_
        refine va_get (D := D) (ci := 11) (v := .ref q_found) (C := RX11) (T := TX11) (N := 11) hx hb hts hn_X11_keep_X11 hown hK hP 0 rfl rfl 3 (by decide) (hts _ hw_X11_keep_f33) (fun _ h9 => h9) rfl dX11_keep_33 ?_
        refine va_getN (D := D) (ci := 2) (v := .ref q_found_sheets) (C := RX2) (T := TX2) (N := 6) hx hb hts hn_X11_keep_X2 hown hK hP 3 rfl rfl 1 (by decide) (va_Nw.use rfl (hN _ nw_X11_250)) (fun _ h9 => h9) rfl dX11_keep_36 ?_
        refine va_getN (D := D) (ci := 6) (v := .int s_found_sheets_count) (C := RX6) (T := TX6) (N := 4) hx hb hts hn_X11_keep_X6 hown hK hP 7 rfl rfl 3 (by decide) (va_Nw.use rfl (hN _ nw_X11_254)) (fun _ h9 => h9) rfl dX11_keep_39 ?_
        cases hf
        exact m_iret hx hb hr hlocks hP hS dX11_keep_42
      have hf := pbr_f c_21 hf
      cases hf
    have hf := pbr_f c_4 hf
    by_cases c_22 : x1 = (1 : Int32)
    · have hf := pbr_t c_22 hf
      refine va_aldq (C := "OrphanWave$Findings") (i := x1) hx hb hK hP 1 4 rfl rfl (by rw [c_22]; decide +kernel) dX11_keep_14 ?_
      rw [show va_rf (vi2 q_images_0 q_images_1 (Int32.toNatClampNeg x1)) = .ref q_images_1 by rw [c_22]; rfl]
      refine lv_aload_n hx hb dX11_keep_15 rfl (lv_at hl 0 rfl) ?_
      refine va_get (D := D) (ci := 11) (v := .ref q_found) (C := RX11) (T := TX11) (N := 11) hx hb hts hn_X11_keep_X11 hown hK hP 0 rfl rfl 3 (by decide) (hts _ hw_X11_keep_f33) (fun _ h9 => h9) rfl dX11_keep_16 ?_
      obtain ⟨⟨dugMarshes_23, books_count_24, books_cells_25, books_froms_26, books_tos_27, books_lows_28, books_highs_29, sheets_count_30, sheets_marshes_31, sheets_olds_32, sheets_youngs_33, known_count_34, known_years_35, weights_36⟩, hc_37, hf⟩ := pcl_e hf
      refine m_callV (As := [.ref q_found]) (rest := []) ⟨hx, hb, hml, hown, hts⟩ hX (ct_X2_become l D cA q_images_1 q_found q_images_1_books q_found_books q_found_books_cells q_images_1_books_cells q_found_books_froms q_images_1_books_froms q_found_books_tos q_images_1_books_tos q_found_books_lows q_images_1_books_lows q_found_books_highs q_images_1_books_highs q_images_1_sheets q_found_sheets q_found_sheets_marshes q_images_1_sheets_marshes q_found_sheets_olds q_images_1_sheets_olds q_found_sheets_youngs q_images_1_sheets_youngs q_images_1_known q_found_known q_found_known_years q_images_1_known_years q_found_weights q_images_1_weights s_images_1_dugMarshes s_images_1_kept s_found_dugMarshes s_found_kept s_images_1_books_count s_found_books_count s_found_books_cells s_images_1_books_cells s_found_books_froms s_images_1_books_froms s_found_books_tos s_images_1_books_tos s_found_books_lows s_images_1_books_lows s_found_books_highs s_images_1_books_highs s_images_1_sheets_count s_found_sheets_count s_found_sheets_marshes s_images_1_sheets_marshes s_found_sheets_olds s_images_1_sheets_olds s_found_sheets_youngs s_images_1_sheets_youngs s_images_1_known_count s_found_known_count s_found_known_years s_images_1_known_years s_found_weights s_images_1_weights dugMarshes_23 books_count_24 books_cells_25 books_froms_26 books_tos_27 books_lows_28 books_highs_29 sheets_count_30 sheets_marshes_31 sheets_olds_32 sheets_youngs_33 known_count_34 known_years_35 weights_36 hc_37) (cwV 1 hts gX11_keep_X2_become rfl rfl rfl (by decide +kernel) ⟨Nat.le_of_ble_eq_true rfl, Nat.le_of_ble_eq_true rfl⟩) hP hD hS hA [30, 3, 31, 5, 12, 35, 14, 36, 16, 37, 18, 38, 20, 39, 32, 7, 22, 40, 24, 41, 26, 42, 33, 9, 28, 43, 10, 34] (by decide) rfl rfl (WS' := (w_X11_keep a0 q_images q_images_0 q_found q_images_0_books q_found_books q_images_0_sheets q_found_sheets q_images_0_known q_found_known q_found_weights q_images_0_weights q_found_books_cells q_images_0_books_cells q_found_books_froms q_images_0_books_froms q_found_books_tos q_images_0_books_tos q_found_books_lows q_images_0_books_lows q_found_books_highs q_images_0_books_highs q_found_sheets_marshes q_images_0_sheets_marshes q_found_sheets_olds q_images_0_sheets_olds q_found_sheets_youngs q_images_0_sheets_youngs q_found_known_years q_images_0_known_years q_images_1 q_images_1_books q_images_1_sheets q_images_1_known q_images_1_weights q_images_1_books_cells q_images_1_books_froms q_images_1_books_tos q_images_1_books_lows q_images_1_books_highs q_images_1_sheets_marshes q_images_1_sheets_olds q_images_1_sheets_youngs q_images_1_known_years q_text q_ocean q_trees q_search q_stories q_signs q_calendar q_draft cA s_yearOfNow s_images_0_dugMarshes s_images_0_kept s_found_dugMarshes s_found_kept s_images_0_books_count s_found_books_count s_images_0_sheets_count s_found_sheets_count s_images_0_known_count s_found_known_count s_found_weights s_images_0_weights s_found_books_cells s_images_0_books_cells s_found_books_froms s_images_0_books_froms s_found_books_tos s_images_0_books_tos s_found_books_lows s_images_0_books_lows s_found_books_highs s_images_0_books_highs s_found_sheets_marshes s_images_0_sheets_marshes s_found_sheets_olds s_images_0_sheets_olds s_found_sheets_youngs s_images_0_sheets_youngs s_found_known_years s_images_0_known_years dugMarshes_23 s_images_1_kept books_count_24 sheets_count_30 known_count_34 weights_36 books_cells_25 books_froms_26 books_tos_27 books_lows_28 books_highs_29 sheets_marshes_31 sheets_olds_32 sheets_youngs_33 known_years_35)) rfl 30 2 rfl rfl rfl hl.1 rfl (st' := []) rfl (Nat.le_of_ble_eq_true rfl) ⟨Nat.zero_le _, Nat.zero_le _⟩ dX11_keep_19 (fun H locs hP hD hS => ?_)
      refine lv_aload_n hx hb dX11_keep_22 rfl (lv_at hl 0 rfl) ?_
      refine va_get (D := D) (ci := 11) (v := .ref q_images) (C := RX11) (T := TX11) (N := 11) hx hb hts hn_X11_keep_X11 hown hK hP 0 rfl rfl 4 (by decide) (hts _ hw_X11_keep_f37) (fun _ h9 => h9) rfl dX11_keep_23 ?_
      refine lv_iload_n hx hb dX11_keep_26 rfl (lv_at hl 1 rfl) ?_
      by_cases c_38 : x1 = (0 : Int32)
      · have hf := pbr_t c_38 hf
        refine va_aldq (C := "OrphanWave$Findings") (i := x1) hx hb hK hP 1 4 rfl rfl (by rw [c_38]; decide +kernel) dX11_keep_27 ?_
        rw [show va_rf (vi2 q_images_0 q_images_1 (Int32.toNatClampNeg x1)) = .ref q_images_0 by rw [c_38]; rfl]
        refine lv_iconst (v := (1 : Int32)) hx hb dX11_keep_28 (by decide) ?_
        refine va_putN (D := D) (ci := 2) (v := .int (1 : Int32)) (ty := .boolean) (C := RX2) (T := TX2) (N := 6) hx hb hts hn_X11_keep_X2 tyX2 tyX2_ok nmX2 hown hK hP hD hS 2 rfl rfl 5 (by decide) (va_Nw.use rfl (hN _ nw_X11_369)) (fun _ h9 => h9) rfl (by decide +kernel) rfl rfl (Nat.le_of_ble_eq_true rfl) dX11_keep_29 (fun H locs hP hD hS => ?_)
        have hP : va_P D vwCl (w_X11_keep a0 q_images q_images_0 q_found q_images_0_books q_found_books q_images_0_sheets q_found_sheets q_images_0_known q_found_known q_found_weights q_images_0_weights q_found_books_cells q_images_0_books_cells q_found_books_froms q_images_0_books_froms q_found_books_tos q_images_0_books_tos q_found_books_lows q_images_0_books_lows q_found_books_highs q_images_0_books_highs q_found_sheets_marshes q_images_0_sheets_marshes q_found_sheets_olds q_images_0_sheets_olds q_found_sheets_youngs q_images_0_sheets_youngs q_found_known_years q_images_0_known_years q_images_1 q_images_1_books q_images_1_sheets q_images_1_known q_images_1_weights q_images_1_books_cells q_images_1_books_froms q_images_1_books_tos q_images_1_books_lows q_images_1_books_highs q_images_1_sheets_marshes q_images_1_sheets_olds q_images_1_sheets_youngs q_images_1_known_years q_text q_ocean q_trees q_search q_stories q_signs q_calendar q_draft cA s_yearOfNow s_images_0_dugMarshes (1 : Int32) s_found_dugMarshes s_found_kept s_images_0_books_count s_found_books_count s_images_0_sheets_count s_found_sheets_count s_images_0_known_count s_found_known_count s_found_weights s_images_0_weights s_found_books_cells s_images_0_books_cells s_found_books_froms s_images_0_books_froms s_found_books_tos s_images_0_books_tos s_found_books_lows s_images_0_books_lows s_found_books_highs s_images_0_books_highs s_found_sheets_marshes s_images_0_sheets_marshes s_found_sheets_olds s_images_0_sheets_olds s_found_sheets_youngs s_images_0_sheets_youngs s_found_known_years s_images_0_known_years dugMarshes_23 s_images_1_kept books_count_24 sheets_count_30 known_count_34 weights_36 books_cells_25 books_froms_26 books_tos_27 books_lows_28 books_highs_29 sheets_marshes_31 sheets_olds_32 sheets_youngs_33 known_years_35) H := hP
        have hD : va_D A (w_X11_keep a0 q_images q_images_0 q_found q_images_0_books q_found_books q_images_0_sheets q_found_sheets q_images_0_known q_found_known q_found_weights q_images_0_weights q_found_books_cells q_images_0_books_cells q_found_books_froms q_images_0_books_froms q_found_books_tos q_images_0_books_tos q_found_books_lows q_images_0_books_lows q_found_books_highs q_images_0_books_highs q_found_sheets_marshes q_images_0_sheets_marshes q_found_sheets_olds q_images_0_sheets_olds q_found_sheets_youngs q_images_0_sheets_youngs q_found_known_years q_images_0_known_years q_images_1 q_images_1_books q_images_1_sheets q_images_1_known q_images_1_weights q_images_1_books_cells q_images_1_books_froms q_images_1_books_tos q_images_1_books_lows q_images_1_books_highs q_images_1_sheets_marshes q_images_1_sheets_olds q_images_1_sheets_youngs q_images_1_known_years q_text q_ocean q_trees q_search q_stories q_signs q_calendar q_draft cA s_yearOfNow s_images_0_dugMarshes (1 : Int32) s_found_dugMarshes s_found_kept s_images_0_books_count s_found_books_count s_images_0_sheets_count s_found_sheets_count s_images_0_known_count s_found_known_count s_found_weights s_images_0_weights s_found_books_cells s_images_0_books_cells s_found_books_froms s_images_0_books_froms s_found_books_tos s_images_0_books_tos s_found_books_lows s_images_0_books_lows s_found_books_highs s_images_0_books_highs s_found_sheets_marshes s_images_0_sheets_marshes s_found_sheets_olds s_images_0_sheets_olds s_found_sheets_youngs s_images_0_sheets_youngs s_found_known_years s_images_0_known_years dugMarshes_23 s_images_1_kept books_count_24 sheets_count_30 known_count_34 weights_36 books_cells_25 books_froms_26 books_tos_27 books_lows_28 books_highs_29 sheets_marshes_31 sheets_olds_32 sheets_youngs_33 known_years_35) := hD
        refine lv_aload_n hx hb dX11_keep_32 rfl (lv_at hl 0 rfl) ?_
        refine va_get (D := D) (ci := 11) (v := .ref q_found) (C := RX11) (T := TX11) (N := 11) hx hb hts hn_X11_keep_X11 hown hK hP 0 rfl rfl 3 (by decide) (hts _ hw_X11_keep_f33) (fun _ h9 => h9) rfl dX11_keep_33 ?_
        refine va_getN (D := D) (ci := 2) (v := .ref q_found_sheets) (C := RX2) (T := TX2) (N := 6) hx hb hts hn_X11_keep_X2 hown hK hP 3 rfl rfl 1 (by decide) (va_Nw.use rfl (hN _ nw_X11_250)) (fun _ h9 => h9) rfl dX11_keep_36 ?_
        refine va_getN (D := D) (ci := 6) (v := .int s_found_sheets_count) (C := RX6) (T := TX6) (N := 4) hx hb hts hn_X11_keep_X6 hown hK hP 7 rfl rfl 3 (by decide) (va_Nw.use rfl (hN _ nw_X11_254)) (fun _ h9 => h9) rfl dX11_keep_39 ?_
        cases hf
        exact m_iret hx hb hr hlocks hP hS dX11_keep_42
      have hf := pbr_f c_38 hf
      by_cases c_39 : x1 = (1 : Int32)
      · have hf := pbr_t c_39 hf
        refine va_aldq (C := "OrphanWave$Findings") (i := x1) hx hb hK hP 1 4 rfl rfl (by rw [c_39]; decide +kernel) dX11_keep_27 ?_
        rw [show va_rf (vi2 q_images_0 q_images_1 (Int32.toNatClampNeg x1)) = .ref q_images_1 by rw [c_39]; rfl]
        refine lv_iconst (v := (1 : Int32)) hx hb dX11_keep_28 (by decide) ?_
        refine va_putN (D := D) (ci := 2) (v := .int (1 : Int32)) (ty := .boolean) (C := RX2) (T := TX2) (N := 6) hx hb hts hn_X11_keep_X2 tyX2 tyX2_ok nmX2 hown hK hP hD hS 30 rfl rfl 5 (by decide) (va_Nw.use rfl (hN _ nw_X11_369)) (fun _ h9 => h9) rfl (by decide +kernel) rfl rfl (Nat.le_of_ble_eq_true rfl) dX11_keep_29 (fun H locs hP hD hS => ?_)
        have hP : va_P D vwCl (w_X11_keep a0 q_images q_images_0 q_found q_images_0_books q_found_books q_images_0_sheets q_found_sheets q_images_0_known q_found_known q_found_weights q_images_0_weights q_found_books_cells q_images_0_books_cells q_found_books_froms q_images_0_books_froms q_found_books_tos q_images_0_books_tos q_found_books_lows q_images_0_books_lows q_found_books_highs q_images_0_books_highs q_found_sheets_marshes q_images_0_sheets_marshes q_found_sheets_olds q_images_0_sheets_olds q_found_sheets_youngs q_images_0_sheets_youngs q_found_known_years q_images_0_known_years q_images_1 q_images_1_books q_images_1_sheets q_images_1_known q_images_1_weights q_images_1_books_cells q_images_1_books_froms q_images_1_books_tos q_images_1_books_lows q_images_1_books_highs q_images_1_sheets_marshes q_images_1_sheets_olds q_images_1_sheets_youngs q_images_1_known_years q_text q_ocean q_trees q_search q_stories q_signs q_calendar q_draft cA s_yearOfNow s_images_0_dugMarshes s_images_0_kept s_found_dugMarshes s_found_kept s_images_0_books_count s_found_books_count s_images_0_sheets_count s_found_sheets_count s_images_0_known_count s_found_known_count s_found_weights s_images_0_weights s_found_books_cells s_images_0_books_cells s_found_books_froms s_images_0_books_froms s_found_books_tos s_images_0_books_tos s_found_books_lows s_images_0_books_lows s_found_books_highs s_images_0_books_highs s_found_sheets_marshes s_images_0_sheets_marshes s_found_sheets_olds s_images_0_sheets_olds s_found_sheets_youngs s_images_0_sheets_youngs s_found_known_years s_images_0_known_years dugMarshes_23 (1 : Int32) books_count_24 sheets_count_30 known_count_34 weights_36 books_cells_25 books_froms_26 books_tos_27 books_lows_28 books_highs_29 sheets_marshes_31 sheets_olds_32 sheets_youngs_33 known_years_35) H := hP
        have hD : va_D A (w_X11_keep a0 q_images q_images_0 q_found q_images_0_books q_found_books q_images_0_sheets q_found_sheets q_images_0_known q_found_known q_found_weights q_images_0_weights q_found_books_cells q_images_0_books_cells q_found_books_froms q_images_0_books_froms q_found_books_tos q_images_0_books_tos q_found_books_lows q_images_0_books_lows q_found_books_highs q_images_0_books_highs q_found_sheets_marshes q_images_0_sheets_marshes q_found_sheets_olds q_images_0_sheets_olds q_found_sheets_youngs q_images_0_sheets_youngs q_found_known_years q_images_0_known_years q_images_1 q_images_1_books q_images_1_sheets q_images_1_known q_images_1_weights q_images_1_books_cells q_images_1_books_froms q_images_1_books_tos q_images_1_books_lows q_images_1_books_highs q_images_1_sheets_marshes q_images_1_sheets_olds q_images_1_sheets_youngs q_images_1_known_years q_text q_ocean q_trees q_search q_stories q_signs q_calendar q_draft cA s_yearOfNow s_images_0_dugMarshes s_images_0_kept s_found_dugMarshes s_found_kept s_images_0_books_count s_found_books_count s_images_0_sheets_count s_found_sheets_count s_images_0_known_count s_found_known_count s_found_weights s_images_0_weights s_found_books_cells s_images_0_books_cells s_found_books_froms s_images_0_books_froms s_found_books_tos s_images_0_books_tos s_found_books_lows s_images_0_books_lows s_found_books_highs s_images_0_books_highs s_found_sheets_marshes s_images_0_sheets_marshes s_found_sheets_olds s_images_0_sheets_olds s_found_sheets_youngs s_images_0_sheets_youngs s_found_known_years s_images_0_known_years dugMarshes_23 (1 : Int32) books_count_24 sheets_count_30 known_count_34 weights_36 books_cells_25 books_froms_26 books_tos_27 books_lows_28 books_highs_29 sheets_marshes_31 sheets_olds_32 sheets_youngs_33 known_years_35) := hD
        refine lv_aload_n hx hb dX11_keep_32 rfl (lv_at hl 0 rfl) ?_
        refine va_get (D := D) (ci := 11) (v := .ref q_found) (C := RX11) (T := TX11) (N := 11) hx hb hts hn_X11_keep_X11 hown hK hP 0 rfl rfl 3 (by decide) (hts _ hw_X11_keep_f33) (fun _ h9 => h9) rfl dX11_keep_33 ?_
        refine va_getN (D := D) (ci := 2) (v := .ref q_found_sheets) (C := RX2) (T := TX2) (N := 6) hx hb hts hn_X11_keep_X2 hown hK hP 3 rfl rfl 1 (by decide) (va_Nw.use rfl (hN _ nw_X11_250)) (fun _ h9 => h9) rfl dX11_keep_36 ?_
        refine va_getN (D := D) (ci := 6) (v := .int s_found_sheets_count) (C := RX6) (T := TX6) (N := 4) hx hb hts hn_X11_keep_X6 hown hK hP 7 rfl rfl 3 (by decide) (va_Nw.use rfl (hN _ nw_X11_254)) (fun _ h9 => h9) rfl dX11_keep_39 ?_
        cases hf
        exact m_iret hx hb hr hlocks hP hS dX11_keep_42
      have hf := pbr_f c_39 hf
      cases hf
    have hf := pbr_f c_22 hf
    cases hf
  have hf := pbr_t c_3 hf
  refine lv_iconst (v := (-1 : Int32)) hx hb dX11_keep_7 (by decide) ?_
  cases hf
  exact m_iret hx hb hr hlocks hP hS dX11_keep_8

/-! ===== OrphanWave.back(I)I ===== -/
abbrev rm_X11_back : Room := { frames := 3, cells := 0, slots := 0, locals := 60 }
abbrev w_X11_back (a0 : Nat) (q_images : Nat) (q_images_0 : Nat) (q_found : Nat) (q_found_books : Nat) (q_images_0_books : Nat) (q_found_sheets : Nat) (q_images_0_sheets : Nat) (q_found_known : Nat) (q_images_0_known : Nat) (q_images_0_weights : Nat) (q_found_weights : Nat) (q_images_0_books_cells : Nat) (q_found_books_cells : Nat) (q_images_0_books_froms : Nat) (q_found_books_froms : Nat) (q_images_0_books_tos : Nat) (q_found_books_tos : Nat) (q_images_0_books_lows : Nat) (q_found_books_lows : Nat) (q_images_0_books_highs : Nat) (q_found_books_highs : Nat) (q_images_0_sheets_marshes : Nat) (q_found_sheets_marshes : Nat) (q_images_0_sheets_olds : Nat) (q_found_sheets_olds : Nat) (q_images_0_sheets_youngs : Nat) (q_found_sheets_youngs : Nat) (q_images_0_known_years : Nat) (q_found_known_years : Nat) (q_images_1 : Nat) (q_images_1_books : Nat) (q_images_1_sheets : Nat) (q_images_1_known : Nat) (q_images_1_weights : Nat) (q_images_1_books_cells : Nat) (q_images_1_books_froms : Nat) (q_images_1_books_tos : Nat) (q_images_1_books_lows : Nat) (q_images_1_books_highs : Nat) (q_images_1_sheets_marshes : Nat) (q_images_1_sheets_olds : Nat) (q_images_1_sheets_youngs : Nat) (q_images_1_known_years : Nat) (q_text : Nat) (q_ocean : Nat) (q_trees : Nat) (q_search : Nat) (q_stories : Nat) (q_signs : Nat) (q_calendar : Nat) (q_draft : Nat) (cA : Nat → ClassId) (s_yearOfNow : Int32) (s_images_0_dugMarshes : Int32) (s_images_0_kept : Int32) (s_found_dugMarshes : Int32) (s_found_kept : Int32) (s_found_books_count : Int32) (s_images_0_books_count : Int32) (s_found_sheets_count : Int32) (s_images_0_sheets_count : Int32) (s_found_known_count : Int32) (s_images_0_known_count : Int32) (s_images_0_weights : Nat → Int64) (s_found_weights : Nat → Int64) (s_images_0_books_cells : Nat → Int32) (s_found_books_cells : Nat → Int32) (s_images_0_books_froms : Nat → Int32) (s_found_books_froms : Nat → Int32) (s_images_0_books_tos : Nat → Int32) (s_found_books_tos : Nat → Int32) (s_images_0_books_lows : Nat → Int32) (s_found_books_lows : Nat → Int32) (s_images_0_books_highs : Nat → Int32) (s_found_books_highs : Nat → Int32) (s_images_0_sheets_marshes : Nat → Int32) (s_found_sheets_marshes : Nat → Int32) (s_images_0_sheets_olds : Nat → Int32) (s_found_sheets_olds : Nat → Int32) (s_images_0_sheets_youngs : Nat → Int32) (s_found_sheets_youngs : Nat → Int32) (s_images_0_known_years : Nat → Int32) (s_found_known_years : Nat → Int32) (s_images_1_dugMarshes : Int32) (s_images_1_kept : Int32) (s_images_1_books_count : Int32) (s_images_1_sheets_count : Int32) (s_images_1_known_count : Int32) (s_images_1_weights : Nat → Int64) (s_images_1_books_cells : Nat → Int32) (s_images_1_books_froms : Nat → Int32) (s_images_1_books_tos : Nat → Int32) (s_images_1_books_lows : Nat → Int32) (s_images_1_books_highs : Nat → Int32) (s_images_1_sheets_marshes : Nat → Int32) (s_images_1_sheets_olds : Nat → Int32) (s_images_1_sheets_youngs : Nat → Int32) (s_images_1_known_years : Nat → Int32) : va_W := [(a0, .inr (11, [.ref q_text, .ref q_ocean, .ref q_trees, .ref q_found, .ref q_images, .ref q_search, .ref q_stories, .ref q_signs, .ref q_calendar, .ref q_draft, .int s_yearOfNow])), (q_images, .inl (cA 4, 2, .inr (.inr (.inr (.inr (vi2 q_images_0 q_images_1)))))), (q_images_0, .inr (2, [.ref q_images_0_books, .ref q_images_0_sheets, .ref q_images_0_known, .ref q_images_0_weights, .int s_images_0_dugMarshes, .int s_images_0_kept])), (q_found, .inr (2, [.ref q_found_books, .ref q_found_sheets, .ref q_found_known, .ref q_found_weights, .int s_found_dugMarshes, .int s_found_kept])), (q_found_books, .inr (0, [.ref q_found_books_cells, .ref q_found_books_froms, .ref q_found_books_tos, .ref q_found_books_lows, .ref q_found_books_highs, .int s_found_books_count])), (q_images_0_books, .inr (0, [.ref q_images_0_books_cells, .ref q_images_0_books_froms, .ref q_images_0_books_tos, .ref q_images_0_books_lows, .ref q_images_0_books_highs, .int s_images_0_books_count])), (q_found_sheets, .inr (6, [.ref q_found_sheets_marshes, .ref q_found_sheets_olds, .ref q_found_sheets_youngs, .int s_found_sheets_count])), (q_images_0_sheets, .inr (6, [.ref q_images_0_sheets_marshes, .ref q_images_0_sheets_olds, .ref q_images_0_sheets_youngs, .int s_images_0_sheets_count])), (q_found_known, .inr (3, [.ref q_found_known_years, .int s_found_known_count])), (q_images_0_known, .inr (3, [.ref q_images_0_known_years, .int s_images_0_known_count])), (q_images_0_weights, .inl (cA 2, 5, .inr (.inl s_images_0_weights))), (q_found_weights, .inl (cA 2, 5, .inr (.inl s_found_weights))), (q_images_0_books_cells, .inl (cA 1, 6, .inl s_images_0_books_cells)), (q_found_books_cells, .inl (cA 1, 6, .inl s_found_books_cells)), (q_images_0_books_froms, .inl (cA 1, 6, .inl s_images_0_books_froms)), (q_found_books_froms, .inl (cA 1, 6, .inl s_found_books_froms)), (q_images_0_books_tos, .inl (cA 1, 6, .inl s_images_0_books_tos)), (q_found_books_tos, .inl (cA 1, 6, .inl s_found_books_tos)), (q_images_0_books_lows, .inl (cA 1, 6, .inl s_images_0_books_lows)), (q_found_books_lows, .inl (cA 1, 6, .inl s_found_books_lows)), (q_images_0_books_highs, .inl (cA 1, 6, .inl s_images_0_books_highs)), (q_found_books_highs, .inl (cA 1, 6, .inl s_found_books_highs)), (q_images_0_sheets_marshes, .inl (cA 1, 12, .inl s_images_0_sheets_marshes)), (q_found_sheets_marshes, .inl (cA 1, 12, .inl s_found_sheets_marshes)), (q_images_0_sheets_olds, .inl (cA 1, 12, .inl s_images_0_sheets_olds)), (q_found_sheets_olds, .inl (cA 1, 12, .inl s_found_sheets_olds)), (q_images_0_sheets_youngs, .inl (cA 1, 12, .inl s_images_0_sheets_youngs)), (q_found_sheets_youngs, .inl (cA 1, 12, .inl s_found_sheets_youngs)), (q_images_0_known_years, .inl (cA 1, 16, .inl s_images_0_known_years)), (q_found_known_years, .inl (cA 1, 16, .inl s_found_known_years)), (q_images_1, .inr (2, [.ref q_images_1_books, .ref q_images_1_sheets, .ref q_images_1_known, .ref q_images_1_weights, .int s_images_1_dugMarshes, .int s_images_1_kept])), (q_images_1_books, .inr (0, [.ref q_images_1_books_cells, .ref q_images_1_books_froms, .ref q_images_1_books_tos, .ref q_images_1_books_lows, .ref q_images_1_books_highs, .int s_images_1_books_count])), (q_images_1_sheets, .inr (6, [.ref q_images_1_sheets_marshes, .ref q_images_1_sheets_olds, .ref q_images_1_sheets_youngs, .int s_images_1_sheets_count])), (q_images_1_known, .inr (3, [.ref q_images_1_known_years, .int s_images_1_known_count])), (q_images_1_weights, .inl (cA 2, 5, .inr (.inl s_images_1_weights))), (q_images_1_books_cells, .inl (cA 1, 6, .inl s_images_1_books_cells)), (q_images_1_books_froms, .inl (cA 1, 6, .inl s_images_1_books_froms)), (q_images_1_books_tos, .inl (cA 1, 6, .inl s_images_1_books_tos)), (q_images_1_books_lows, .inl (cA 1, 6, .inl s_images_1_books_lows)), (q_images_1_books_highs, .inl (cA 1, 6, .inl s_images_1_books_highs)), (q_images_1_sheets_marshes, .inl (cA 1, 12, .inl s_images_1_sheets_marshes)), (q_images_1_sheets_olds, .inl (cA 1, 12, .inl s_images_1_sheets_olds)), (q_images_1_sheets_youngs, .inl (cA 1, 12, .inl s_images_1_sheets_youngs)), (q_images_1_known_years, .inl (cA 1, 16, .inl s_images_1_known_years))]
theorem hn_X11_back_X11 : ∀ w ∈ u_ws RX11 TX11 11, w ∈ wsX11_back := by decide +kernel
theorem hn_X11_back_X2 : ∀ w ∈ u_ws RX2 TX2 6, w ∈ wsX11_back := by decide +kernel
theorem hn_X11_back_X6 : ∀ w ∈ u_ws RX6 TX6 4, w ∈ wsX11_back := by decide +kernel
theorem hw_X11_back_f37 : Cond.fieldLink RX11 37 "OrphanWave" "images" "[LOrphanWave$Findings;" ∈ wsX11_back := by decide +kernel
theorem hw_X11_back_f33 : Cond.fieldLink RX11 33 "OrphanWave" "found" "LOrphanWave$Findings;" ∈ wsX11_back := by decide +kernel

def f_X11_back (x1 : Int32) (s_images_0_dugMarshes : Int32) (s_images_0_kept : Int32) (s_found_dugMarshes : Int32) (s_found_books_count : Int32) (s_images_0_books_count : Int32) (s_found_sheets_count : Int32) (s_images_0_sheets_count : Int32) (s_found_known_count : Int32) (s_images_0_known_count : Int32) (s_images_0_weights : Nat → Int64) (s_found_weights : Nat → Int64) (s_images_0_books_cells : Nat → Int32) (s_found_books_cells : Nat → Int32) (s_images_0_books_froms : Nat → Int32) (s_found_books_froms : Nat → Int32) (s_images_0_books_tos : Nat → Int32) (s_found_books_tos : Nat → Int32) (s_images_0_books_lows : Nat → Int32) (s_found_books_lows : Nat → Int32) (s_images_0_books_highs : Nat → Int32) (s_found_books_highs : Nat → Int32) (s_images_0_sheets_marshes : Nat → Int32) (s_found_sheets_marshes : Nat → Int32) (s_images_0_sheets_olds : Nat → Int32) (s_found_sheets_olds : Nat → Int32) (s_images_0_sheets_youngs : Nat → Int32) (s_found_sheets_youngs : Nat → Int32) (s_images_0_known_years : Nat → Int32) (s_found_known_years : Nat → Int32) (s_images_1_dugMarshes : Int32) (s_images_1_kept : Int32) (s_images_1_books_count : Int32) (s_images_1_sheets_count : Int32) (s_images_1_known_count : Int32) (s_images_1_weights : Nat → Int64) (s_images_1_books_cells : Nat → Int32) (s_images_1_books_froms : Nat → Int32) (s_images_1_books_tos : Nat → Int32) (s_images_1_books_lows : Nat → Int32) (s_images_1_books_highs : Nat → Int32) (s_images_1_sheets_marshes : Nat → Int32) (s_images_1_sheets_olds : Nat → Int32) (s_images_1_sheets_youngs : Nat → Int32) (s_images_1_known_years : Nat → Int32) : Option ((Int32) × (Int32) × (Int32) × (Int32) × (Int32) × (Nat → Int64) × (Nat → Int32) × (Nat → Int32) × (Nat → Int32) × (Nat → Int32) × (Nat → Int32) × (Nat → Int32) × (Nat → Int32) × (Nat → Int32) × (Nat → Int32)) :=
  pcl (f_X11_isImage x1) (fun r_1 => (
  pbr (r_1 = 0)
    (some ((-1 : Int32), s_found_dugMarshes, s_found_books_count, s_found_sheets_count, s_found_known_count, s_found_weights, s_found_books_cells, s_found_books_froms, s_found_books_tos, s_found_books_lows, s_found_books_highs, s_found_sheets_marshes, s_found_sheets_olds, s_found_sheets_youngs, s_found_known_years))
    (pbr (x1 = (0 : Int32))
      (pbr (s_images_0_kept = 0)
        (some ((-2 : Int32), s_found_dugMarshes, s_found_books_count, s_found_sheets_count, s_found_known_count, s_found_weights, s_found_books_cells, s_found_books_froms, s_found_books_tos, s_found_books_lows, s_found_books_highs, s_found_sheets_marshes, s_found_sheets_olds, s_found_sheets_youngs, s_found_known_years))
        (pbr (x1 = (0 : Int32))
          (pcl (f_X2_become s_found_dugMarshes s_images_0_dugMarshes s_found_books_count s_images_0_books_count s_images_0_books_cells s_found_books_cells s_images_0_books_froms s_found_books_froms s_images_0_books_tos s_found_books_tos s_images_0_books_lows s_found_books_lows s_images_0_books_highs s_found_books_highs s_found_sheets_count s_images_0_sheets_count s_images_0_sheets_marshes s_found_sheets_marshes s_images_0_sheets_olds s_found_sheets_olds s_images_0_sheets_youngs s_found_sheets_youngs s_found_known_count s_images_0_known_count s_images_0_known_years s_found_known_years s_images_0_weights s_found_weights) (fun (dugMarshes_7, books_count_8, books_cells_9, books_froms_10, books_tos_11, books_lows_12, books_highs_13, sheets_count_14, sheets_marshes_15, sheets_olds_16, sheets_youngs_17, known_count_18, known_years_19, weights_20) => (
          some (sheets_count_14, dugMarshes_7, books_count_8, sheets_count_14, known_count_18, weights_20, books_cells_9, books_froms_10, books_tos_11, books_lows_12, books_highs_13, sheets_marshes_15, sheets_olds_16, sheets_youngs_17, known_years_19))))
        (pbr (x1 = (1 : Int32))
          (pcl (f_X2_become s_found_dugMarshes s_images_1_dugMarshes s_found_books_count s_images_1_books_count s_images_1_books_cells s_found_books_cells s_images_1_books_froms s_found_books_froms s_images_1_books_tos s_found_books_tos s_images_1_books_lows s_found_books_lows s_images_1_books_highs s_found_books_highs s_found_sheets_count s_images_1_sheets_count s_images_1_sheets_marshes s_found_sheets_marshes s_images_1_sheets_olds s_found_sheets_olds s_images_1_sheets_youngs s_found_sheets_youngs s_found_known_count s_images_1_known_count s_images_1_known_years s_found_known_years s_images_1_weights s_found_weights) (fun (dugMarshes_23, books_count_24, books_cells_25, books_froms_26, books_tos_27, books_lows_28, books_highs_29, sheets_count_30, sheets_marshes_31, sheets_olds_32, sheets_youngs_33, known_count_34, known_years_35, weights_36) => (
          some (sheets_count_30, dugMarshes_23, books_count_24, sheets_count_30, known_count_34, weights_36, books_cells_25, books_froms_26, books_tos_27, books_lows_28, books_highs_29, sheets_marshes_31, sheets_olds_32, sheets_youngs_33, known_years_35))))
        (none))))
    (pbr (x1 = (1 : Int32))
      (pbr (s_images_1_kept = 0)
        (some ((-2 : Int32), s_found_dugMarshes, s_found_books_count, s_found_sheets_count, s_found_known_count, s_found_weights, s_found_books_cells, s_found_books_froms, s_found_books_tos, s_found_books_lows, s_found_books_highs, s_found_sheets_marshes, s_found_sheets_olds, s_found_sheets_youngs, s_found_known_years))
        (pbr (x1 = (0 : Int32))
          (pcl (f_X2_become s_found_dugMarshes s_images_0_dugMarshes s_found_books_count s_images_0_books_count s_images_0_books_cells s_found_books_cells s_images_0_books_froms s_found_books_froms s_images_0_books_tos s_found_books_tos s_images_0_books_lows s_found_books_lows s_images_0_books_highs s_found_books_highs s_found_sheets_count s_images_0_sheets_count s_images_0_sheets_marshes s_found_sheets_marshes s_images_0_sheets_olds s_found_sheets_olds s_images_0_sheets_youngs s_found_sheets_youngs s_found_known_count s_images_0_known_count s_images_0_known_years s_found_known_years s_images_0_weights s_found_weights) (fun (dugMarshes_41, books_count_42, books_cells_43, books_froms_44, books_tos_45, books_lows_46, books_highs_47, sheets_count_48, sheets_marshes_49, sheets_olds_50, sheets_youngs_51, known_count_52, known_years_53, weights_54) => (
          some (sheets_count_48, dugMarshes_41, books_count_42, sheets_count_48, known_count_52, weights_54, books_cells_43, books_froms_44, books_tos_45, books_lows_46, books_highs_47, sheets_marshes_49, sheets_olds_50, sheets_youngs_51, known_years_53))))
        (pbr (x1 = (1 : Int32))
          (pcl (f_X2_become s_found_dugMarshes s_images_1_dugMarshes s_found_books_count s_images_1_books_count s_images_1_books_cells s_found_books_cells s_images_1_books_froms s_found_books_froms s_images_1_books_tos s_found_books_tos s_images_1_books_lows s_found_books_lows s_images_1_books_highs s_found_books_highs s_found_sheets_count s_images_1_sheets_count s_images_1_sheets_marshes s_found_sheets_marshes s_images_1_sheets_olds s_found_sheets_olds s_images_1_sheets_youngs s_found_sheets_youngs s_found_known_count s_images_1_known_count s_images_1_known_years s_found_known_years s_images_1_weights s_found_weights) (fun (dugMarshes_57, books_count_58, books_cells_59, books_froms_60, books_tos_61, books_lows_62, books_highs_63, sheets_count_64, sheets_marshes_65, sheets_olds_66, sheets_youngs_67, known_count_68, known_years_69, weights_70) => (
          some (sheets_count_64, dugMarshes_57, books_count_58, sheets_count_64, known_count_68, weights_70, books_cells_59, books_froms_60, books_tos_61, books_lows_62, books_highs_63, sheets_marshes_65, sheets_olds_66, sheets_youngs_67, known_years_69))))
        (none))))
    (none)))))

set_option maxRecDepth 100000 in
set_option maxHeartbeats 4000000 in
theorem ct_X11_back (l : Launch) (D : va_G) (cA : Nat → ClassId) (x1 : Int32) (a0 : Nat) (q_images : Nat) (q_images_0 : Nat) (q_found : Nat) (q_found_books : Nat) (q_images_0_books : Nat) (q_found_sheets : Nat) (q_images_0_sheets : Nat) (q_found_known : Nat) (q_images_0_known : Nat) (q_images_0_weights : Nat) (q_found_weights : Nat) (q_images_0_books_cells : Nat) (q_found_books_cells : Nat) (q_images_0_books_froms : Nat) (q_found_books_froms : Nat) (q_images_0_books_tos : Nat) (q_found_books_tos : Nat) (q_images_0_books_lows : Nat) (q_found_books_lows : Nat) (q_images_0_books_highs : Nat) (q_found_books_highs : Nat) (q_images_0_sheets_marshes : Nat) (q_found_sheets_marshes : Nat) (q_images_0_sheets_olds : Nat) (q_found_sheets_olds : Nat) (q_images_0_sheets_youngs : Nat) (q_found_sheets_youngs : Nat) (q_images_0_known_years : Nat) (q_found_known_years : Nat) (q_images_1 : Nat) (q_images_1_books : Nat) (q_images_1_sheets : Nat) (q_images_1_known : Nat) (q_images_1_weights : Nat) (q_images_1_books_cells : Nat) (q_images_1_books_froms : Nat) (q_images_1_books_tos : Nat) (q_images_1_books_lows : Nat) (q_images_1_books_highs : Nat) (q_images_1_sheets_marshes : Nat) (q_images_1_sheets_olds : Nat) (q_images_1_sheets_youngs : Nat) (q_images_1_known_years : Nat) (q_text : Nat) (q_ocean : Nat) (q_trees : Nat) (q_search : Nat) (q_stories : Nat) (q_signs : Nat) (q_calendar : Nat) (q_draft : Nat) (s_yearOfNow : Int32) (s_images_0_dugMarshes : Int32) (s_images_0_kept : Int32) (s_found_dugMarshes : Int32) (s_found_kept : Int32) (s_found_books_count : Int32) (s_images_0_books_count : Int32) (s_found_sheets_count : Int32) (s_images_0_sheets_count : Int32) (s_found_known_count : Int32) (s_images_0_known_count : Int32) (s_images_0_weights : Nat → Int64) (s_found_weights : Nat → Int64) (s_images_0_books_cells : Nat → Int32) (s_found_books_cells : Nat → Int32) (s_images_0_books_froms : Nat → Int32) (s_found_books_froms : Nat → Int32) (s_images_0_books_tos : Nat → Int32) (s_found_books_tos : Nat → Int32) (s_images_0_books_lows : Nat → Int32) (s_found_books_lows : Nat → Int32) (s_images_0_books_highs : Nat → Int32) (s_found_books_highs : Nat → Int32) (s_images_0_sheets_marshes : Nat → Int32) (s_found_sheets_marshes : Nat → Int32) (s_images_0_sheets_olds : Nat → Int32) (s_found_sheets_olds : Nat → Int32) (s_images_0_sheets_youngs : Nat → Int32) (s_found_sheets_youngs : Nat → Int32) (s_images_0_known_years : Nat → Int32) (s_found_known_years : Nat → Int32) (s_images_1_dugMarshes : Int32) (s_images_1_kept : Int32) (s_images_1_books_count : Int32) (s_images_1_sheets_count : Int32) (s_images_1_known_count : Int32) (s_images_1_weights : Nat → Int64) (s_images_1_books_cells : Nat → Int32) (s_images_1_books_froms : Nat → Int32) (s_images_1_books_tos : Nat → Int32) (s_images_1_books_lows : Nat → Int32) (s_images_1_books_highs : Nat → Int32) (s_images_1_sheets_marshes : Nat → Int32) (s_images_1_sheets_olds : Nat → Int32) (s_images_1_sheets_youngs : Nat → Int32) (s_images_1_known_years : Nat → Int32) (o_r : Int32) (o_found_dugMarshes : Int32) (o_found_books_count : Int32) (o_found_sheets_count : Int32) (o_found_known_count : Int32) (o_found_weights : Nat → Int64) (o_found_books_cells : Nat → Int32) (o_found_books_froms : Nat → Int32) (o_found_books_tos : Nat → Int32) (o_found_books_lows : Nat → Int32) (o_found_books_highs : Nat → Int32) (o_found_sheets_marshes : Nat → Int32) (o_found_sheets_olds : Nat → Int32) (o_found_sheets_youngs : Nat → Int32) (o_found_known_years : Nat → Int32) (hf : f_X11_back x1 s_images_0_dugMarshes s_images_0_kept s_found_dugMarshes s_found_books_count s_images_0_books_count s_found_sheets_count s_images_0_sheets_count s_found_known_count s_images_0_known_count s_images_0_weights s_found_weights s_images_0_books_cells s_found_books_cells s_images_0_books_froms s_found_books_froms s_images_0_books_tos s_found_books_tos s_images_0_books_lows s_found_books_lows s_images_0_books_highs s_found_books_highs s_images_0_sheets_marshes s_found_sheets_marshes s_images_0_sheets_olds s_found_sheets_olds s_images_0_sheets_youngs s_found_sheets_youngs s_images_0_known_years s_found_known_years s_images_1_dugMarshes s_images_1_kept s_images_1_books_count s_images_1_sheets_count s_images_1_known_count s_images_1_weights s_images_1_books_cells s_images_1_books_froms s_images_1_books_tos s_images_1_books_lows s_images_1_books_highs s_images_1_sheets_marshes s_images_1_sheets_olds s_images_1_sheets_youngs s_images_1_known_years = some (o_r, o_found_dugMarshes, o_found_books_count, o_found_sheets_count, o_found_known_count, o_found_weights, o_found_books_cells, o_found_books_froms, o_found_books_tos, o_found_books_lows, o_found_books_highs, o_found_sheets_marshes, o_found_sheets_olds, o_found_sheets_youngs, o_found_known_years)) : CT l yX11_back wsX11_back rm_X11_back D cA [.ref a0, .int x1] (w_X11_back a0 q_images q_images_0 q_found q_found_books q_images_0_books q_found_sheets q_images_0_sheets q_found_known q_images_0_known q_images_0_weights q_found_weights q_images_0_books_cells q_found_books_cells q_images_0_books_froms q_found_books_froms q_images_0_books_tos q_found_books_tos q_images_0_books_lows q_found_books_lows q_images_0_books_highs q_found_books_highs q_images_0_sheets_marshes q_found_sheets_marshes q_images_0_sheets_olds q_found_sheets_olds q_images_0_sheets_youngs q_found_sheets_youngs q_images_0_known_years q_found_known_years q_images_1 q_images_1_books q_images_1_sheets q_images_1_known q_images_1_weights q_images_1_books_cells q_images_1_books_froms q_images_1_books_tos q_images_1_books_lows q_images_1_books_highs q_images_1_sheets_marshes q_images_1_sheets_olds q_images_1_sheets_youngs q_images_1_known_years q_text q_ocean q_trees q_search q_stories q_signs q_calendar q_draft cA s_yearOfNow s_images_0_dugMarshes s_images_0_kept s_found_dugMarshes s_found_kept s_found_books_count s_images_0_books_count s_found_sheets_count s_images_0_sheets_count s_found_known_count s_images_0_known_count s_images_0_weights s_found_weights s_images_0_books_cells s_found_books_cells s_images_0_books_froms s_found_books_froms s_images_0_books_tos s_found_books_tos s_images_0_books_lows s_found_books_lows s_images_0_books_highs s_found_books_highs s_images_0_sheets_marshes s_found_sheets_marshes s_images_0_sheets_olds s_found_sheets_olds s_images_0_sheets_youngs s_found_sheets_youngs s_images_0_known_years s_found_known_years s_images_1_dugMarshes s_images_1_kept s_images_1_books_count s_images_1_sheets_count s_images_1_known_count s_images_1_weights s_images_1_books_cells s_images_1_books_froms s_images_1_books_tos s_images_1_books_lows s_images_1_books_highs s_images_1_sheets_marshes s_images_1_sheets_olds s_images_1_sheets_youngs s_images_1_known_years) (w_X11_back a0 q_images q_images_0 q_found q_found_books q_images_0_books q_found_sheets q_images_0_sheets q_found_known q_images_0_known q_images_0_weights q_found_weights q_images_0_books_cells q_found_books_cells q_images_0_books_froms q_found_books_froms q_images_0_books_tos q_found_books_tos q_images_0_books_lows q_found_books_lows q_images_0_books_highs q_found_books_highs q_images_0_sheets_marshes q_found_sheets_marshes q_images_0_sheets_olds q_found_sheets_olds q_images_0_sheets_youngs q_found_sheets_youngs q_images_0_known_years q_found_known_years q_images_1 q_images_1_books q_images_1_sheets q_images_1_known q_images_1_weights q_images_1_books_cells q_images_1_books_froms q_images_1_books_tos q_images_1_books_lows q_images_1_books_highs q_images_1_sheets_marshes q_images_1_sheets_olds q_images_1_sheets_youngs q_images_1_known_years q_text q_ocean q_trees q_search q_stories q_signs q_calendar q_draft cA s_yearOfNow s_images_0_dugMarshes s_images_0_kept o_found_dugMarshes s_found_kept o_found_books_count s_images_0_books_count o_found_sheets_count s_images_0_sheets_count o_found_known_count s_images_0_known_count s_images_0_weights o_found_weights s_images_0_books_cells o_found_books_cells s_images_0_books_froms o_found_books_froms s_images_0_books_tos o_found_books_tos s_images_0_books_lows o_found_books_lows s_images_0_books_highs o_found_books_highs s_images_0_sheets_marshes o_found_sheets_marshes s_images_0_sheets_olds o_found_sheets_olds s_images_0_sheets_youngs o_found_sheets_youngs s_images_0_known_years o_found_known_years s_images_1_dugMarshes s_images_1_kept s_images_1_books_count s_images_1_sheets_count s_images_1_known_count s_images_1_weights s_images_1_books_cells s_images_1_books_froms s_images_1_books_tos s_images_1_books_lows s_images_1_books_highs s_images_1_sheets_marshes s_images_1_sheets_olds s_images_1_sheets_youngs s_images_1_known_years) (some (.int o_r)) := by
  refine CT.ofW (cc := cX11_back) (maxL := 2) (ret := (some .int)) (by decide +kernel) rfl (Nat.le_of_ble_eq_true rfl) ?_
  intro p e s m below meth c A C0 hA hP hD ls hl
  have C0 : MX p s m [.ref a0, .int x1].toArray meth c cX11_back 2 wsX11_back RX11 (some .int) D cA := C0
  have hl : lv_has ls 2 [(0, .ref a0), (1, .int x1)] := hl
  obtain ⟨hx, hb, hml, hown, hts, hr, hlocks, hX⟩ := id C0
  have hK := hX.1
  have hN := hX.2
  have hS : va_S A s.heap s.heap [] := va_S.rf
  unfold f_X11_back at hf
  refine lv_iload_n hx hb dX11_back_0 rfl (lv_at hl 1 rfl) ?_
  obtain ⟨r_1, hc_2, hf⟩ := pcl_e hf
  refine m_callS (As := [.int x1]) (rest := []) ⟨hx, hb, hml, hown, hts⟩ hX (ct_X11_isImage l D cA x1 r_1 hc_2) (va_cwS 1 hts gX11_back_X11_isImage rfl rfl rfl (by decide +kernel) ⟨Nat.le_of_ble_eq_true rfl, Nat.le_of_ble_eq_true rfl⟩) hP hD hS hA [] (by decide) rfl rfl (WS' := (w_X11_back a0 q_images q_images_0 q_found q_found_books q_images_0_books q_found_sheets q_images_0_sheets q_found_known q_images_0_known q_images_0_weights q_found_weights q_images_0_books_cells q_found_books_cells q_images_0_books_froms q_found_books_froms q_images_0_books_tos q_found_books_tos q_images_0_books_lows q_found_books_lows q_images_0_books_highs q_found_books_highs q_images_0_sheets_marshes q_found_sheets_marshes q_images_0_sheets_olds q_found_sheets_olds q_images_0_sheets_youngs q_found_sheets_youngs q_images_0_known_years q_found_known_years q_images_1 q_images_1_books q_images_1_sheets q_images_1_known q_images_1_weights q_images_1_books_cells q_images_1_books_froms q_images_1_books_tos q_images_1_books_lows q_images_1_books_highs q_images_1_sheets_marshes q_images_1_sheets_olds q_images_1_sheets_youngs q_images_1_known_years q_text q_ocean q_trees q_search q_stories q_signs q_calendar q_draft cA s_yearOfNow s_images_0_dugMarshes s_images_0_kept s_found_dugMarshes s_found_kept s_found_books_count s_images_0_books_count s_found_sheets_count s_images_0_sheets_count s_found_known_count s_images_0_known_count s_images_0_weights s_found_weights s_images_0_books_cells s_found_books_cells s_images_0_books_froms s_found_books_froms s_images_0_books_tos s_found_books_tos s_images_0_books_lows s_found_books_lows s_images_0_books_highs s_found_books_highs s_images_0_sheets_marshes s_found_sheets_marshes s_images_0_sheets_olds s_found_sheets_olds s_images_0_sheets_youngs s_found_sheets_youngs s_images_0_known_years s_found_known_years s_images_1_dugMarshes s_images_1_kept s_images_1_books_count s_images_1_sheets_count s_images_1_known_count s_images_1_weights s_images_1_books_cells s_images_1_books_froms s_images_1_books_tos s_images_1_books_lows s_images_1_books_highs s_images_1_sheets_marshes s_images_1_sheets_olds s_images_1_sheets_youngs s_images_1_known_years)) rfl rfl hl.1 rfl (st' := [.int r_1]) rfl (Nat.le_of_ble_eq_true rfl) ⟨Nat.zero_le _, Nat.zero_le _⟩ dX11_back_1 (fun H locs hP hD hS => ?_)
  refine lv_if_ne (tgt := 9) hx hb dX11_back_4 (by decide) (fun c_3 => ?_) (fun c_3 => ?_)
  · have hf := pbr_f c_3 hf
    refine lv_aload_n hx hb dX11_back_9 rfl (lv_at hl 0 rfl) ?_
    refine va_get (D := D) (ci := 11) (v := .ref q_images) (C := RX11) (T := TX11) (N := 11) hx hb hts hn_X11_back_X11 hown hK hP 0 rfl rfl 4 (by decide) (hts _ hw_X11_back_f37) (fun _ h9 => h9) rfl dX11_back_10 ?_
    refine lv_iload_n hx hb dX11_back_13 rfl (lv_at hl 1 rfl) ?_
    by_cases c_4 : x1 = (0 : Int32)
    · have hf := pbr_t c_4 hf
      refine va_aldq (C := "OrphanWave$Findings") (i := x1) hx hb hK hP 1 4 rfl rfl (by rw [c_4]; decide +kernel) dX11_back_14 ?_
      rw [show va_rf (vi2 q_images_0 q_images_1 (Int32.toNatClampNeg x1)) = .ref q_images_0 by rw [c_4]; rfl]
      refine va_getN (D := D) (ci := 2) (v := .int s_images_0_kept) (C := RX2) (T := TX2) (N := 6) hx hb hts hn_X11_back_X2 hown hK hP 2 rfl rfl 5 (by decide) (va_Nw.use rfl (hN _ nw_X11_369)) (fun _ h9 => h9) rfl dX11_back_15 ?_
      refine lv_if_ne (tgt := 24) hx hb dX11_back_18 (by decide) (fun c_5 => ?_) (fun c_5 => ?_)
      · have hf := pbr_f c_5 hf
        refine lv_aload_n hx hb dX11_back_24 rfl (lv_at hl 0 rfl) ?_
        refine va_get (D := D) (ci := 11) (v := .ref q_found) (C := RX11) (T := TX11) (N := 11) hx hb hts hn_X11_back_X11 hown hK hP 0 rfl rfl 3 (by decide) (hts _ hw_X11_back_f33) (fun _ h9 => h9) rfl dX11_back_25 ?_
        refine lv_aload_n hx hb dX11_back_28 rfl (lv_at hl 0 rfl) ?_
        refine va_get (D := D) (ci := 11) (v := .ref q_images) (C := RX11) (T := TX11) (N := 11) hx hb hts hn_X11_back_X11 hown hK hP 0 rfl rfl 4 (by decide) (hts _ hw_X11_back_f37) (fun _ h9 => h9) rfl dX11_back_29 ?_
        refine lv_iload_n hx hb dX11_back_32 rfl (lv_at hl 1 rfl) ?_
        by_cases c_6 : x1 = (0 : Int32)
        · have hf := pbr_t c_6 hf
          refine va_aldq (C := "OrphanWave$Findings") (i := x1) hx hb hK hP 1 4 rfl rfl (by rw [c_6]; decide +kernel) dX11_back_33 ?_
          rw [show va_rf (vi2 q_images_0 q_images_1 (Int32.toNatClampNeg x1)) = .ref q_images_0 by rw [c_6]; rfl]
          obtain ⟨⟨dugMarshes_7, books_count_8, books_cells_9, books_froms_10, books_tos_11, books_lows_12, books_highs_13, sheets_count_14, sheets_marshes_15, sheets_olds_16, sheets_youngs_17, known_count_18, known_years_19, weights_20⟩, hc_21, hf⟩ := pcl_e hf
          refine m_callV (As := [.ref q_images_0]) (rest := []) ⟨hx, hb, hml, hown, hts⟩ hX (ct_X2_become l D cA q_found q_images_0 q_found_books q_images_0_books q_images_0_books_cells q_found_books_cells q_images_0_books_froms q_found_books_froms q_images_0_books_tos q_found_books_tos q_images_0_books_lows q_found_books_lows q_images_0_books_highs q_found_books_highs q_found_sheets q_images_0_sheets q_images_0_sheets_marshes q_found_sheets_marshes q_images_0_sheets_olds q_found_sheets_olds q_images_0_sheets_youngs q_found_sheets_youngs q_found_known q_images_0_known q_images_0_known_years q_found_known_years q_images_0_weights q_found_weights s_found_dugMarshes s_found_kept s_images_0_dugMarshes s_images_0_kept s_found_books_count s_images_0_books_count s_images_0_books_cells s_found_books_cells s_images_0_books_froms s_found_books_froms s_images_0_books_tos s_found_books_tos s_images_0_books_lows s_found_books_lows s_images_0_books_highs s_found_books_highs s_found_sheets_count s_images_0_sheets_count s_images_0_sheets_marshes s_found_sheets_marshes s_images_0_sheets_olds s_found_sheets_olds s_images_0_sheets_youngs s_found_sheets_youngs s_found_known_count s_images_0_known_count s_images_0_known_years s_found_known_years s_images_0_weights s_found_weights dugMarshes_7 books_count_8 books_cells_9 books_froms_10 books_tos_11 books_lows_12 books_highs_13 sheets_count_14 sheets_marshes_15 sheets_olds_16 sheets_youngs_17 known_count_18 known_years_19 weights_20 hc_21) (cwV 1 hts gX11_back_X2_become rfl rfl rfl (by decide +kernel) ⟨Nat.le_of_ble_eq_true rfl, Nat.le_of_ble_eq_true rfl⟩) hP hD hS hA [3, 2, 4, 5, 12, 13, 14, 15, 16, 17, 18, 19, 20, 21, 6, 7, 22, 23, 24, 25, 26, 27, 8, 9, 28, 29, 10, 11] (by decide) rfl rfl (WS' := (w_X11_back a0 q_images q_images_0 q_found q_found_books q_images_0_books q_found_sheets q_images_0_sheets q_found_known q_images_0_known q_images_0_weights q_found_weights q_images_0_books_cells q_found_books_cells q_images_0_books_froms q_found_books_froms q_images_0_books_tos q_found_books_tos q_images_0_books_lows q_found_books_lows q_images_0_books_highs q_found_books_highs q_images_0_sheets_marshes q_found_sheets_marshes q_images_0_sheets_olds q_found_sheets_olds q_images_0_sheets_youngs q_found_sheets_youngs q_images_0_known_years q_found_known_years q_images_1 q_images_1_books q_images_1_sheets q_images_1_known q_images_1_weights q_images_1_books_cells q_images_1_books_froms q_images_1_books_tos q_images_1_books_lows q_images_1_books_highs q_images_1_sheets_marshes q_images_1_sheets_olds q_images_1_sheets_youngs q_images_1_known_years q_text q_ocean q_trees q_search q_stories q_signs q_calendar q_draft cA s_yearOfNow s_images_0_dugMarshes s_images_0_kept dugMarshes_7 s_found_kept books_count_8 s_images_0_books_count sheets_count_14 s_images_0_sheets_count known_count_18 s_images_0_known_count s_images_0_weights weights_20 s_images_0_books_cells books_cells_9 s_images_0_books_froms books_froms_10 s_images_0_books_tos books_tos_11 s_images_0_books_lows books_lows_12 s_images_0_books_highs books_highs_13 s_images_0_sheets_marshes sheets_marshes_15 s_images_0_sheets_olds sheets_olds_16 s_images_0_sheets_youngs sheets_youngs_17 s_images_0_known_years known_years_19 s_images_1_dugMarshes s_images_1_kept s_images_1_books_count s_images_1_sheets_count s_images_1_known_count s_images_1_weights s_images_1_books_cells s_images_1_books_froms s_images_1_books_tos s_images_1_books_lows s_images_1_books_highs s_images_1_sheets_marshes s_images_1_sheets_olds s_images_1_sheets_youngs s_images_1_known_years)) rfl 3 2 rfl rfl rfl hl.1 rfl (st' := []) rfl (Nat.le_of_ble_eq_true rfl) ⟨Nat.zero_le _, Nat.zero_le _⟩ dX11_back_34 (fun H locs hP hD hS => ?_)
          refine lv_aload_n hx hb dX11_back_37 rfl (lv_at hl 0 rfl) ?_
          refine va_get (D := D) (ci := 11) (v := .ref q_found) (C := RX11) (T := TX11) (N := 11) hx hb hts hn_X11_back_X11 hown hK hP 0 rfl rfl 3 (by decide) (hts _ hw_X11_back_f33) (fun _ h9 => h9) rfl dX11_back_38 ?_
          refine va_getN (D := D) (ci := 2) (v := .ref q_found_sheets) (C := RX2) (T := TX2) (N := 6) hx hb hts hn_X11_back_X2 hown hK hP 3 rfl rfl 1 (by decide) (va_Nw.use rfl (hN _ nw_X11_250)) (fun _ h9 => h9) rfl dX11_back_41 ?_
          refine va_getN (D := D) (ci := 6) (v := .int sheets_count_14) (C := RX6) (T := TX6) (N := 4) hx hb hts hn_X11_back_X6 hown hK hP 6 rfl rfl 3 (by decide) (va_Nw.use rfl (hN _ nw_X11_254)) (fun _ h9 => h9) rfl dX11_back_44 ?_
          cases hf
          exact m_iret hx hb hr hlocks hP hS dX11_back_47
        have hf := pbr_f c_6 hf
        by_cases c_22 : x1 = (1 : Int32)
        · have hf := pbr_t c_22 hf
          refine va_aldq (C := "OrphanWave$Findings") (i := x1) hx hb hK hP 1 4 rfl rfl (by rw [c_22]; decide +kernel) dX11_back_33 ?_
          rw [show va_rf (vi2 q_images_0 q_images_1 (Int32.toNatClampNeg x1)) = .ref q_images_1 by rw [c_22]; rfl]
          obtain ⟨⟨dugMarshes_23, books_count_24, books_cells_25, books_froms_26, books_tos_27, books_lows_28, books_highs_29, sheets_count_30, sheets_marshes_31, sheets_olds_32, sheets_youngs_33, known_count_34, known_years_35, weights_36⟩, hc_37, hf⟩ := pcl_e hf
          refine m_callV (As := [.ref q_images_1]) (rest := []) ⟨hx, hb, hml, hown, hts⟩ hX (ct_X2_become l D cA q_found q_images_1 q_found_books q_images_1_books q_images_1_books_cells q_found_books_cells q_images_1_books_froms q_found_books_froms q_images_1_books_tos q_found_books_tos q_images_1_books_lows q_found_books_lows q_images_1_books_highs q_found_books_highs q_found_sheets q_images_1_sheets q_images_1_sheets_marshes q_found_sheets_marshes q_images_1_sheets_olds q_found_sheets_olds q_images_1_sheets_youngs q_found_sheets_youngs q_found_known q_images_1_known q_images_1_known_years q_found_known_years q_images_1_weights q_found_weights s_found_dugMarshes s_found_kept s_images_1_dugMarshes s_images_1_kept s_found_books_count s_images_1_books_count s_images_1_books_cells s_found_books_cells s_images_1_books_froms s_found_books_froms s_images_1_books_tos s_found_books_tos s_images_1_books_lows s_found_books_lows s_images_1_books_highs s_found_books_highs s_found_sheets_count s_images_1_sheets_count s_images_1_sheets_marshes s_found_sheets_marshes s_images_1_sheets_olds s_found_sheets_olds s_images_1_sheets_youngs s_found_sheets_youngs s_found_known_count s_images_1_known_count s_images_1_known_years s_found_known_years s_images_1_weights s_found_weights dugMarshes_23 books_count_24 books_cells_25 books_froms_26 books_tos_27 books_lows_28 books_highs_29 sheets_count_30 sheets_marshes_31 sheets_olds_32 sheets_youngs_33 known_count_34 known_years_35 weights_36 hc_37) (cwV 1 hts gX11_back_X2_become rfl rfl rfl (by decide +kernel) ⟨Nat.le_of_ble_eq_true rfl, Nat.le_of_ble_eq_true rfl⟩) hP hD hS hA [3, 30, 4, 31, 35, 13, 36, 15, 37, 17, 38, 19, 39, 21, 6, 32, 40, 23, 41, 25, 42, 27, 8, 33, 43, 29, 34, 11] (by decide) rfl rfl (WS' := (w_X11_back a0 q_images q_images_0 q_found q_found_books q_images_0_books q_found_sheets q_images_0_sheets q_found_known q_images_0_known q_images_0_weights q_found_weights q_images_0_books_cells q_found_books_cells q_images_0_books_froms q_found_books_froms q_images_0_books_tos q_found_books_tos q_images_0_books_lows q_found_books_lows q_images_0_books_highs q_found_books_highs q_images_0_sheets_marshes q_found_sheets_marshes q_images_0_sheets_olds q_found_sheets_olds q_images_0_sheets_youngs q_found_sheets_youngs q_images_0_known_years q_found_known_years q_images_1 q_images_1_books q_images_1_sheets q_images_1_known q_images_1_weights q_images_1_books_cells q_images_1_books_froms q_images_1_books_tos q_images_1_books_lows q_images_1_books_highs q_images_1_sheets_marshes q_images_1_sheets_olds q_images_1_sheets_youngs q_images_1_known_years q_text q_ocean q_trees q_search q_stories q_signs q_calendar q_draft cA s_yearOfNow s_images_0_dugMarshes s_images_0_kept dugMarshes_23 s_found_kept books_count_24 s_images_0_books_count sheets_count_30 s_images_0_sheets_count known_count_34 s_images_0_known_count s_images_0_weights weights_36 s_images_0_books_cells books_cells_25 s_images_0_books_froms books_froms_26 s_images_0_books_tos books_tos_27 s_images_0_books_lows books_lows_28 s_images_0_books_highs books_highs_29 s_images_0_sheets_marshes sheets_marshes_31 s_images_0_sheets_olds sheets_olds_32 s_images_0_sheets_youngs sheets_youngs_33 s_images_0_known_years known_years_35 s_images_1_dugMarshes s_images_1_kept s_images_1_books_count s_images_1_sheets_count s_images_1_known_count s_images_1_weights s_images_1_books_cells s_images_1_books_froms s_images_1_books_tos s_images_1_books_lows s_images_1_books_highs s_images_1_sheets_marshes s_images_1_sheets_olds s_images_1_sheets_youngs s_images_1_known_years)) rfl 3 2 rfl rfl rfl hl.1 rfl (st' := []) rfl (Nat.le_of_ble_eq_true rfl) ⟨Nat.zero_le _, Nat.zero_le _⟩ dX11_back_34 (fun H locs hP hD hS => ?_)
          refine lv_aload_n hx hb dX11_back_37 rfl (lv_at hl 0 rfl) ?_
          refine va_get (D := D) (ci := 11) (v := .ref q_found) (C := RX11) (T := TX11) (N := 11) hx hb hts hn_X11_back_X11 hown hK hP 0 rfl rfl 3 (by decide) (hts _ hw_X11_back_f33) (fun _ h9 => h9) rfl dX11_back_38 ?_
          refine va_getN (D := D) (ci := 2) (v := .ref q_found_sheets) (C := RX2) (T := TX2) (N := 6) hx hb hts hn_X11_back_X2 hown hK hP 3 rfl rfl 1 (by decide) (va_Nw.use rfl (hN _ nw_X11_250)) (fun _ h9 => h9) rfl dX11_back_41 ?_
          refine va_getN (D := D) (ci := 6) (v := .int sheets_count_30) (C := RX6) (T := TX6) (N := 4) hx hb hts hn_X11_back_X6 hown hK hP 6 rfl rfl 3 (by decide) (va_Nw.use rfl (hN _ nw_X11_254)) (fun _ h9 => h9) rfl dX11_back_44 ?_
          cases hf
          exact m_iret hx hb hr hlocks hP hS dX11_back_47
        have hf := pbr_f c_22 hf
        cases hf
      have hf := pbr_t c_5 hf
      refine lv_bipush (v := (-2 : Int32)) hx hb dX11_back_21 (by decide) ?_
      cases hf
      exact m_iret hx hb hr hlocks hP hS dX11_back_23
    have hf := pbr_f c_4 hf
    by_cases c_38 : x1 = (1 : Int32)
    · have hf := pbr_t c_38 hf
      refine va_aldq (C := "OrphanWave$Findings") (i := x1) hx hb hK hP 1 4 rfl rfl (by rw [c_38]; decide +kernel) dX11_back_14 ?_
      rw [show va_rf (vi2 q_images_0 q_images_1 (Int32.toNatClampNeg x1)) = .ref q_images_1 by rw [c_38]; rfl]
      refine va_getN (D := D) (ci := 2) (v := .int s_images_1_kept) (C := RX2) (T := TX2) (N := 6) hx hb hts hn_X11_back_X2 hown hK hP 30 rfl rfl 5 (by decide) (va_Nw.use rfl (hN _ nw_X11_369)) (fun _ h9 => h9) rfl dX11_back_15 ?_
      refine lv_if_ne (tgt := 24) hx hb dX11_back_18 (by decide) (fun c_39 => ?_) (fun c_39 => ?_)
      · have hf := pbr_f c_39 hf
        refine lv_aload_n hx hb dX11_back_24 rfl (lv_at hl 0 rfl) ?_
        refine va_get (D := D) (ci := 11) (v := .ref q_found) (C := RX11) (T := TX11) (N := 11) hx hb hts hn_X11_back_X11 hown hK hP 0 rfl rfl 3 (by decide) (hts _ hw_X11_back_f33) (fun _ h9 => h9) rfl dX11_back_25 ?_
        refine lv_aload_n hx hb dX11_back_28 rfl (lv_at hl 0 rfl) ?_
        refine va_get (D := D) (ci := 11) (v := .ref q_images) (C := RX11) (T := TX11) (N := 11) hx hb hts hn_X11_back_X11 hown hK hP 0 rfl rfl 4 (by decide) (hts _ hw_X11_back_f37) (fun _ h9 => h9) rfl dX11_back_29 ?_
        refine lv_iload_n hx hb dX11_back_32 rfl (lv_at hl 1 rfl) ?_
        by_cases c_40 : x1 = (0 : Int32)
        · have hf := pbr_t c_40 hf
          refine va_aldq (C := "OrphanWave$Findings") (i := x1) hx hb hK hP 1 4 rfl rfl (by rw [c_40]; decide +kernel) dX11_back_33 ?_
          rw [show va_rf (vi2 q_images_0 q_images_1 (Int32.toNatClampNeg x1)) = .ref q_images_0 by rw [c_40]; rfl]
          obtain ⟨⟨dugMarshes_41, books_count_42, books_cells_43, books_froms_44, books_tos_45, books_lows_46, books_highs_47, sheets_count_48, sheets_marshes_49, sheets_olds_50, sheets_youngs_51, known_count_52, known_years_53, weights_54⟩, hc_55, hf⟩ := pcl_e hf
          refine m_callV (As := [.ref q_images_0]) (rest := []) ⟨hx, hb, hml, hown, hts⟩ hX (ct_X2_become l D cA q_found q_images_0 q_found_books q_images_0_books q_images_0_books_cells q_found_books_cells q_images_0_books_froms q_found_books_froms q_images_0_books_tos q_found_books_tos q_images_0_books_lows q_found_books_lows q_images_0_books_highs q_found_books_highs q_found_sheets q_images_0_sheets q_images_0_sheets_marshes q_found_sheets_marshes q_images_0_sheets_olds q_found_sheets_olds q_images_0_sheets_youngs q_found_sheets_youngs q_found_known q_images_0_known q_images_0_known_years q_found_known_years q_images_0_weights q_found_weights s_found_dugMarshes s_found_kept s_images_0_dugMarshes s_images_0_kept s_found_books_count s_images_0_books_count s_images_0_books_cells s_found_books_cells s_images_0_books_froms s_found_books_froms s_images_0_books_tos s_found_books_tos s_images_0_books_lows s_found_books_lows s_images_0_books_highs s_found_books_highs s_found_sheets_count s_images_0_sheets_count s_images_0_sheets_marshes s_found_sheets_marshes s_images_0_sheets_olds s_found_sheets_olds s_images_0_sheets_youngs s_found_sheets_youngs s_found_known_count s_images_0_known_count s_images_0_known_years s_found_known_years s_images_0_weights s_found_weights dugMarshes_41 books_count_42 books_cells_43 books_froms_44 books_tos_45 books_lows_46 books_highs_47 sheets_count_48 sheets_marshes_49 sheets_olds_50 sheets_youngs_51 known_count_52 known_years_53 weights_54 hc_55) (cwV 1 hts gX11_back_X2_become rfl rfl rfl (by decide +kernel) ⟨Nat.le_of_ble_eq_true rfl, Nat.le_of_ble_eq_true rfl⟩) hP hD hS hA [3, 2, 4, 5, 12, 13, 14, 15, 16, 17, 18, 19, 20, 21, 6, 7, 22, 23, 24, 25, 26, 27, 8, 9, 28, 29, 10, 11] (by decide) rfl rfl (WS' := (w_X11_back a0 q_images q_images_0 q_found q_found_books q_images_0_books q_found_sheets q_images_0_sheets q_found_known q_images_0_known q_images_0_weights q_found_weights q_images_0_books_cells q_found_books_cells q_images_0_books_froms q_found_books_froms q_images_0_books_tos q_found_books_tos q_images_0_books_lows q_found_books_lows q_images_0_books_highs q_found_books_highs q_images_0_sheets_marshes q_found_sheets_marshes q_images_0_sheets_olds q_found_sheets_olds q_images_0_sheets_youngs q_found_sheets_youngs q_images_0_known_years q_found_known_years q_images_1 q_images_1_books q_images_1_sheets q_images_1_known q_images_1_weights q_images_1_books_cells q_images_1_books_froms q_images_1_books_tos q_images_1_books_lows q_images_1_books_highs q_images_1_sheets_marshes q_images_1_sheets_olds q_images_1_sheets_youngs q_images_1_known_years q_text q_ocean q_trees q_search q_stories q_signs q_calendar q_draft cA s_yearOfNow s_images_0_dugMarshes s_images_0_kept dugMarshes_41 s_found_kept books_count_42 s_images_0_books_count sheets_count_48 s_images_0_sheets_count known_count_52 s_images_0_known_count s_images_0_weights weights_54 s_images_0_books_cells books_cells_43 s_images_0_books_froms books_froms_44 s_images_0_books_tos books_tos_45 s_images_0_books_lows books_lows_46 s_images_0_books_highs books_highs_47 s_images_0_sheets_marshes sheets_marshes_49 s_images_0_sheets_olds sheets_olds_50 s_images_0_sheets_youngs sheets_youngs_51 s_images_0_known_years known_years_53 s_images_1_dugMarshes s_images_1_kept s_images_1_books_count s_images_1_sheets_count s_images_1_known_count s_images_1_weights s_images_1_books_cells s_images_1_books_froms s_images_1_books_tos s_images_1_books_lows s_images_1_books_highs s_images_1_sheets_marshes s_images_1_sheets_olds s_images_1_sheets_youngs s_images_1_known_years)) rfl 3 2 rfl rfl rfl hl.1 rfl (st' := []) rfl (Nat.le_of_ble_eq_true rfl) ⟨Nat.zero_le _, Nat.zero_le _⟩ dX11_back_34 (fun H locs hP hD hS => ?_)
          refine lv_aload_n hx hb dX11_back_37 rfl (lv_at hl 0 rfl) ?_
          refine va_get (D := D) (ci := 11) (v := .ref q_found) (C := RX11) (T := TX11) (N := 11) hx hb hts hn_X11_back_X11 hown hK hP 0 rfl rfl 3 (by decide) (hts _ hw_X11_back_f33) (fun _ h9 => h9) rfl dX11_back_38 ?_
          refine va_getN (D := D) (ci := 2) (v := .ref q_found_sheets) (C := RX2) (T := TX2) (N := 6) hx hb hts hn_X11_back_X2 hown hK hP 3 rfl rfl 1 (by decide) (va_Nw.use rfl (hN _ nw_X11_250)) (fun _ h9 => h9) rfl dX11_back_41 ?_
          refine va_getN (D := D) (ci := 6) (v := .int sheets_count_48) (C := RX6) (T := TX6) (N := 4) hx hb hts hn_X11_back_X6 hown hK hP 6 rfl rfl 3 (by decide) (va_Nw.use rfl (hN _ nw_X11_254)) (fun _ h9 => h9) rfl dX11_back_44 ?_
          cases hf
          exact m_iret hx hb hr hlocks hP hS dX11_back_47
        have hf := pbr_f c_40 hf
        by_cases c_56 : x1 = (1 : Int32)
        · have hf := pbr_t c_56 hf
          refine va_aldq (C := "OrphanWave$Findings") (i := x1) hx hb hK hP 1 4 rfl rfl (by rw [c_56]; decide +kernel) dX11_back_33 ?_
          rw [show va_rf (vi2 q_images_0 q_images_1 (Int32.toNatClampNeg x1)) = .ref q_images_1 by rw [c_56]; rfl]
          obtain ⟨⟨dugMarshes_57, books_count_58, books_cells_59, books_froms_60, books_tos_61, books_lows_62, books_highs_63, sheets_count_64, sheets_marshes_65, sheets_olds_66, sheets_youngs_67, known_count_68, known_years_69, weights_70⟩, hc_71, hf⟩ := pcl_e hf
          refine m_callV (As := [.ref q_images_1]) (rest := []) ⟨hx, hb, hml, hown, hts⟩ hX (ct_X2_become l D cA q_found q_images_1 q_found_books q_images_1_books q_images_1_books_cells q_found_books_cells q_images_1_books_froms q_found_books_froms q_images_1_books_tos q_found_books_tos q_images_1_books_lows q_found_books_lows q_images_1_books_highs q_found_books_highs q_found_sheets q_images_1_sheets q_images_1_sheets_marshes q_found_sheets_marshes q_images_1_sheets_olds q_found_sheets_olds q_images_1_sheets_youngs q_found_sheets_youngs q_found_known q_images_1_known q_images_1_known_years q_found_known_years q_images_1_weights q_found_weights s_found_dugMarshes s_found_kept s_images_1_dugMarshes s_images_1_kept s_found_books_count s_images_1_books_count s_images_1_books_cells s_found_books_cells s_images_1_books_froms s_found_books_froms s_images_1_books_tos s_found_books_tos s_images_1_books_lows s_found_books_lows s_images_1_books_highs s_found_books_highs s_found_sheets_count s_images_1_sheets_count s_images_1_sheets_marshes s_found_sheets_marshes s_images_1_sheets_olds s_found_sheets_olds s_images_1_sheets_youngs s_found_sheets_youngs s_found_known_count s_images_1_known_count s_images_1_known_years s_found_known_years s_images_1_weights s_found_weights dugMarshes_57 books_count_58 books_cells_59 books_froms_60 books_tos_61 books_lows_62 books_highs_63 sheets_count_64 sheets_marshes_65 sheets_olds_66 sheets_youngs_67 known_count_68 known_years_69 weights_70 hc_71) (cwV 1 hts gX11_back_X2_become rfl rfl rfl (by decide +kernel) ⟨Nat.le_of_ble_eq_true rfl, Nat.le_of_ble_eq_true rfl⟩) hP hD hS hA [3, 30, 4, 31, 35, 13, 36, 15, 37, 17, 38, 19, 39, 21, 6, 32, 40, 23, 41, 25, 42, 27, 8, 33, 43, 29, 34, 11] (by decide) rfl rfl (WS' := (w_X11_back a0 q_images q_images_0 q_found q_found_books q_images_0_books q_found_sheets q_images_0_sheets q_found_known q_images_0_known q_images_0_weights q_found_weights q_images_0_books_cells q_found_books_cells q_images_0_books_froms q_found_books_froms q_images_0_books_tos q_found_books_tos q_images_0_books_lows q_found_books_lows q_images_0_books_highs q_found_books_highs q_images_0_sheets_marshes q_found_sheets_marshes q_images_0_sheets_olds q_found_sheets_olds q_images_0_sheets_youngs q_found_sheets_youngs q_images_0_known_years q_found_known_years q_images_1 q_images_1_books q_images_1_sheets q_images_1_known q_images_1_weights q_images_1_books_cells q_images_1_books_froms q_images_1_books_tos q_images_1_books_lows q_images_1_books_highs q_images_1_sheets_marshes q_images_1_sheets_olds q_images_1_sheets_youngs q_images_1_known_years q_text q_ocean q_trees q_search q_stories q_signs q_calendar q_draft cA s_yearOfNow s_images_0_dugMarshes s_images_0_kept dugMarshes_57 s_found_kept books_count_58 s_images_0_books_count sheets_count_64 s_images_0_sheets_count known_count_68 s_images_0_known_count s_images_0_weights weights_70 s_images_0_books_cells books_cells_59 s_images_0_books_froms books_froms_60 s_images_0_books_tos books_tos_61 s_images_0_books_lows books_lows_62 s_images_0_books_highs books_highs_63 s_images_0_sheets_marshes sheets_marshes_65 s_images_0_sheets_olds sheets_olds_66 s_images_0_sheets_youngs sheets_youngs_67 s_images_0_known_years known_years_69 s_images_1_dugMarshes s_images_1_kept s_images_1_books_count s_images_1_sheets_count s_images_1_known_count s_images_1_weights s_images_1_books_cells s_images_1_books_froms s_images_1_books_tos s_images_1_books_lows s_images_1_books_highs s_images_1_sheets_marshes s_images_1_sheets_olds s_images_1_sheets_youngs s_images_1_known_years)) rfl 3 2 rfl rfl rfl hl.1 rfl (st' := []) rfl (Nat.le_of_ble_eq_true rfl) ⟨Nat.zero_le _, Nat.zero_le _⟩ dX11_back_34 (fun H locs hP hD hS => ?_)
          refine lv_aload_n hx hb dX11_back_37 rfl (lv_at hl 0 rfl) ?_
          refine va_get (D := D) (ci := 11) (v := .ref q_found) (C := RX11) (T := TX11) (N := 11) hx hb hts hn_X11_back_X11 hown hK hP 0 rfl rfl 3 (by decide) (hts _ hw_X11_back_f33) (fun _ h9 => h9) rfl dX11_back_38 ?_
          refine va_getN (D := D) (ci := 2) (v := .ref q_found_sheets) (C := RX2) (T := TX2) (N := 6) hx hb hts hn_X11_back_X2 hown hK hP 3 rfl rfl 1 (by decide) (va_Nw.use rfl (hN _ nw_X11_250)) (fun _ h9 => h9) rfl dX11_back_41 ?_
          refine va_getN (D := D) (ci := 6) (v := .int sheets_count_64) (C := RX6) (T := TX6) (N := 4) hx hb hts hn_X11_back_X6 hown hK hP 6 rfl rfl 3 (by decide) (va_Nw.use rfl (hN _ nw_X11_254)) (fun _ h9 => h9) rfl dX11_back_44 ?_
          cases hf
          exact m_iret hx hb hr hlocks hP hS dX11_back_47
        have hf := pbr_f c_56 hf
        cases hf
      have hf := pbr_t c_39 hf
      refine lv_bipush (v := (-2 : Int32)) hx hb dX11_back_21 (by decide) ?_
      cases hf
      exact m_iret hx hb hr hlocks hP hS dX11_back_23
    have hf := pbr_f c_38 hf
    cases hf
  have hf := pbr_t c_3 hf
  refine lv_iconst (v := (-1 : Int32)) hx hb dX11_back_7 (by decide) ?_
  cases hf
  exact m_iret hx hb hr hlocks hP hS dX11_back_8

/-! ===== OrphanWave.count(I)I ===== -/
abbrev rm_X11_count : Room := { frames := 2, cells := 0, slots := 0, locals := 40 }
abbrev w_X11_count (a0 : Nat) (q_ocean : Nat) (q_ocean_depths : Nat) (q_found : Nat) (q_found_books : Nat) (q_calendar : Nat) (q_trees : Nat) (q_found_sheets : Nat) (q_found_known : Nat) (q_text : Nat) (q_images : Nat) (q_search : Nat) (q_stories : Nat) (q_signs : Nat) (q_draft : Nat) (q_ocean_figures : Nat) (q_ocean_times : Nat) (q_found_weights : Nat) (q_found_books_cells : Nat) (q_found_books_froms : Nat) (q_found_books_tos : Nat) (q_found_books_lows : Nat) (q_found_books_highs : Nat) (q_calendar_lengths : Nat) (q_calendar_months : Nat) (q_trees_livingRings : Nat) (q_trees_woodRings : Nat) (q_trees_woodCounts : Nat) (q_trees_ends : Nat) (q_found_sheets_marshes : Nat) (q_found_sheets_olds : Nat) (q_found_sheets_youngs : Nat) (q_found_known_years : Nat) (q_text_bytes : Nat) (cA : Nat → ClassId) (s_yearOfNow : Int32) (s_ocean_pace : Int32) (s_ocean_fade : Int32) (s_ocean_depths : Nat → Int32) (s_found_dugMarshes : Int32) (s_found_kept : Int32) (s_found_books_count : Int32) (s_calendar_years : Int32) (s_trees_livingCount : Int32) (s_trees_firstYear : Int32) (s_found_sheets_count : Int32) (s_found_known_count : Int32) (s_text_length : Int32) : va_W := [(a0, .inr (11, [.ref q_text, .ref q_ocean, .ref q_trees, .ref q_found, .ref q_images, .ref q_search, .ref q_stories, .ref q_signs, .ref q_calendar, .ref q_draft, .int s_yearOfNow])), (q_ocean, .inr (4, [.ref q_ocean_depths, .ref q_ocean_figures, .ref q_ocean_times, .int s_ocean_pace, .int s_ocean_fade])), (q_ocean_depths, .inl (cA 1, 48, .inl s_ocean_depths)), (q_found, .inr (2, [.ref q_found_books, .ref q_found_sheets, .ref q_found_known, .ref q_found_weights, .int s_found_dugMarshes, .int s_found_kept])), (q_found_books, .inr (0, [.ref q_found_books_cells, .ref q_found_books_froms, .ref q_found_books_tos, .ref q_found_books_lows, .ref q_found_books_highs, .int s_found_books_count])), (q_calendar, .inr (1, [.ref q_calendar_lengths, .ref q_calendar_months, .int s_calendar_years])), (q_trees, .inr (10, [.ref q_trees_livingRings, .ref q_trees_woodRings, .ref q_trees_woodCounts, .ref q_trees_ends, .int s_trees_livingCount, .int s_trees_firstYear])), (q_found_sheets, .inr (6, [.ref q_found_sheets_marshes, .ref q_found_sheets_olds, .ref q_found_sheets_youngs, .int s_found_sheets_count])), (q_found_known, .inr (3, [.ref q_found_known_years, .int s_found_known_count])), (q_text, .inr (9, [.ref q_text_bytes, .int s_text_length]))]
theorem hn_X11_count_X11 : ∀ w ∈ u_ws RX11 TX11 11, w ∈ wsX11_count := by decide +kernel
theorem hn_X11_count_X2 : ∀ w ∈ u_ws RX2 TX2 6, w ∈ wsX11_count := by decide +kernel
theorem hn_X11_count_X0 : ∀ w ∈ u_ws RX0 TX0 6, w ∈ wsX11_count := by decide +kernel
theorem hn_X11_count_X1 : ∀ w ∈ u_ws RX1 TX1 3, w ∈ wsX11_count := by decide +kernel
theorem hn_X11_count_X10 : ∀ w ∈ u_ws RX10 TX10 6, w ∈ wsX11_count := by decide +kernel
theorem hn_X11_count_X6 : ∀ w ∈ u_ws RX6 TX6 4, w ∈ wsX11_count := by decide +kernel
theorem hn_X11_count_X3 : ∀ w ∈ u_ws RX3 TX3 2, w ∈ wsX11_count := by decide +kernel
theorem hn_X11_count_X9 : ∀ w ∈ u_ws RX9 TX9 2, w ∈ wsX11_count := by decide +kernel
theorem hw_X11_count_f19 : Cond.fieldLink RX11 19 "OrphanWave" "ocean" "LOrphanWave$Ocean;" ∈ wsX11_count := by decide +kernel
theorem hw_X11_count_f33 : Cond.fieldLink RX11 33 "OrphanWave" "found" "LOrphanWave$Findings;" ∈ wsX11_count := by decide +kernel
theorem hw_X11_count_f73 : Cond.fieldLink RX11 73 "OrphanWave" "calendar" "LOrphanWave$Calendar;" ∈ wsX11_count := by decide +kernel
theorem hw_X11_count_f26 : Cond.fieldLink RX11 26 "OrphanWave" "trees" "LOrphanWave$Trees;" ∈ wsX11_count := by decide +kernel
theorem hw_X11_count_f12 : Cond.fieldLink RX11 12 "OrphanWave" "text" "LOrphanWave$Text;" ∈ wsX11_count := by decide +kernel

def f_X11_count (x1 : Int32) (s_ocean_depths : Nat → Int32) (s_found_dugMarshes : Int32) (s_found_books_count : Int32) (s_calendar_years : Int32) (s_trees_livingCount : Int32) (s_found_sheets_count : Int32) (s_found_known_count : Int32) (s_text_length : Int32) : Option ((Int32)) :=
  pbr (x1 = (0 : Int32))
    (pcl (f_X4_seaCells s_ocean_depths) (fun r_2 => (
    some (r_2))))
  (pbr (x1 = (1 : Int32))
    (some (s_found_books_count))
  (pbr (x1 = (2 : Int32))
    (some (s_calendar_years))
  (pbr (x1 = (3 : Int32))
    (some (s_trees_livingCount))
  (pbr (x1 = (4 : Int32))
    (some (s_found_sheets_count))
  (pbr (x1 = (5 : Int32))
    (some (s_found_known_count))
  (pbr (x1 = (6 : Int32))
    (pcl (f_X2_dugCount s_found_dugMarshes) (fun r_10 => (
    some (r_10))))
  (pbr (x1 = (7 : Int32))
    (some (s_text_length))
  (some ((-1 : Int32))))))))))

set_option maxRecDepth 100000 in
set_option maxHeartbeats 4000000 in
theorem ct_X11_count (l : Launch) (D : va_G) (cA : Nat → ClassId) (x1 : Int32) (a0 : Nat) (q_ocean : Nat) (q_ocean_depths : Nat) (q_found : Nat) (q_found_books : Nat) (q_calendar : Nat) (q_trees : Nat) (q_found_sheets : Nat) (q_found_known : Nat) (q_text : Nat) (q_images : Nat) (q_search : Nat) (q_stories : Nat) (q_signs : Nat) (q_draft : Nat) (q_ocean_figures : Nat) (q_ocean_times : Nat) (q_found_weights : Nat) (q_found_books_cells : Nat) (q_found_books_froms : Nat) (q_found_books_tos : Nat) (q_found_books_lows : Nat) (q_found_books_highs : Nat) (q_calendar_lengths : Nat) (q_calendar_months : Nat) (q_trees_livingRings : Nat) (q_trees_woodRings : Nat) (q_trees_woodCounts : Nat) (q_trees_ends : Nat) (q_found_sheets_marshes : Nat) (q_found_sheets_olds : Nat) (q_found_sheets_youngs : Nat) (q_found_known_years : Nat) (q_text_bytes : Nat) (s_yearOfNow : Int32) (s_ocean_pace : Int32) (s_ocean_fade : Int32) (s_ocean_depths : Nat → Int32) (s_found_dugMarshes : Int32) (s_found_kept : Int32) (s_found_books_count : Int32) (s_calendar_years : Int32) (s_trees_livingCount : Int32) (s_trees_firstYear : Int32) (s_found_sheets_count : Int32) (s_found_known_count : Int32) (s_text_length : Int32) (o_r : Int32) (hf : f_X11_count x1 s_ocean_depths s_found_dugMarshes s_found_books_count s_calendar_years s_trees_livingCount s_found_sheets_count s_found_known_count s_text_length = some o_r) : CT l yX11_count wsX11_count rm_X11_count D cA [.ref a0, .int x1] (w_X11_count a0 q_ocean q_ocean_depths q_found q_found_books q_calendar q_trees q_found_sheets q_found_known q_text q_images q_search q_stories q_signs q_draft q_ocean_figures q_ocean_times q_found_weights q_found_books_cells q_found_books_froms q_found_books_tos q_found_books_lows q_found_books_highs q_calendar_lengths q_calendar_months q_trees_livingRings q_trees_woodRings q_trees_woodCounts q_trees_ends q_found_sheets_marshes q_found_sheets_olds q_found_sheets_youngs q_found_known_years q_text_bytes cA s_yearOfNow s_ocean_pace s_ocean_fade s_ocean_depths s_found_dugMarshes s_found_kept s_found_books_count s_calendar_years s_trees_livingCount s_trees_firstYear s_found_sheets_count s_found_known_count s_text_length) (w_X11_count a0 q_ocean q_ocean_depths q_found q_found_books q_calendar q_trees q_found_sheets q_found_known q_text q_images q_search q_stories q_signs q_draft q_ocean_figures q_ocean_times q_found_weights q_found_books_cells q_found_books_froms q_found_books_tos q_found_books_lows q_found_books_highs q_calendar_lengths q_calendar_months q_trees_livingRings q_trees_woodRings q_trees_woodCounts q_trees_ends q_found_sheets_marshes q_found_sheets_olds q_found_sheets_youngs q_found_known_years q_text_bytes cA s_yearOfNow s_ocean_pace s_ocean_fade s_ocean_depths s_found_dugMarshes s_found_kept s_found_books_count s_calendar_years s_trees_livingCount s_trees_firstYear s_found_sheets_count s_found_known_count s_text_length) (some (.int o_r)) := by
  refine CT.ofW (cc := cX11_count) (maxL := 2) (ret := (some .int)) (by decide +kernel) rfl (Nat.le_of_ble_eq_true rfl) ?_
  intro p e s m below meth c A C0 hA hP hD ls hl
  have C0 : MX p s m [.ref a0, .int x1].toArray meth c cX11_count 2 wsX11_count RX11 (some .int) D cA := C0
  have hl : lv_has ls 2 [(0, .ref a0), (1, .int x1)] := hl
  obtain ⟨hx, hb, hml, hown, hts, hr, hlocks, hX⟩ := id C0
  have hK := hX.1
  have hN := hX.2
  have hS : va_S A s.heap s.heap [] := va_S.rf
  unfold f_X11_count at hf
  refine lv_iload_n hx hb dX11_count_0 rfl (lv_at hl 1 rfl) ?_
  by_cases c_1 : x1 = (0 : Int32)
  · have hf := pbr_t c_1 hf
    refine lv_tableIn (off := 47) (tgt := 48) hx hb dX11_count_1 (by rw [c_1]; decide) (by rw [c_1]; decide) (by rw [c_1]; rfl) (by decide) ?_
    refine lv_aload_n hx hb dX11_count_48 rfl (lv_at hl 0 rfl) ?_
    refine va_get (D := D) (ci := 11) (v := .ref q_ocean) (C := RX11) (T := TX11) (N := 11) hx hb hts hn_X11_count_X11 hown hK hP 0 rfl rfl 1 (by decide) (hts _ hw_X11_count_f19) (fun _ h9 => h9) rfl dX11_count_49 ?_
    obtain ⟨r_2, hc_3, hf⟩ := pcl_e hf
    refine m_callV (As := []) (rest := []) ⟨hx, hb, hml, hown, hts⟩ hX (ct_X4_seaCells l D cA q_ocean q_ocean_depths q_ocean_figures q_ocean_times s_ocean_pace s_ocean_fade s_ocean_depths r_2 hc_3) (cwV 0 hts gX11_count_X4_seaCells rfl rfl rfl (by decide +kernel) ⟨Nat.le_of_ble_eq_true rfl, Nat.le_of_ble_eq_true rfl⟩) hP hD hS hA [1, 2] (by decide) rfl rfl (WS' := (w_X11_count a0 q_ocean q_ocean_depths q_found q_found_books q_calendar q_trees q_found_sheets q_found_known q_text q_images q_search q_stories q_signs q_draft q_ocean_figures q_ocean_times q_found_weights q_found_books_cells q_found_books_froms q_found_books_tos q_found_books_lows q_found_books_highs q_calendar_lengths q_calendar_months q_trees_livingRings q_trees_woodRings q_trees_woodCounts q_trees_ends q_found_sheets_marshes q_found_sheets_olds q_found_sheets_youngs q_found_known_years q_text_bytes cA s_yearOfNow s_ocean_pace s_ocean_fade s_ocean_depths s_found_dugMarshes s_found_kept s_found_books_count s_calendar_years s_trees_livingCount s_trees_firstYear s_found_sheets_count s_found_known_count s_text_length)) rfl 1 4 rfl rfl rfl hl.1 rfl (st' := [.int r_2]) rfl (Nat.le_of_ble_eq_true rfl) ⟨Nat.zero_le _, Nat.zero_le _⟩ dX11_count_52 (fun H locs hP hD hS => ?_)
    cases hf
    exact m_iret hx hb hr hlocks hP hS dX11_count_55
  have hf := pbr_f c_1 hf
  by_cases c_4 : x1 = (1 : Int32)
  · have hf := pbr_t c_4 hf
    refine lv_tableIn (off := 55) (tgt := 56) hx hb dX11_count_1 (by rw [c_4]; decide) (by rw [c_4]; decide) (by rw [c_4]; rfl) (by decide) ?_
    refine lv_aload_n hx hb dX11_count_56 rfl (lv_at hl 0 rfl) ?_
    refine va_get (D := D) (ci := 11) (v := .ref q_found) (C := RX11) (T := TX11) (N := 11) hx hb hts hn_X11_count_X11 hown hK hP 0 rfl rfl 3 (by decide) (hts _ hw_X11_count_f33) (fun _ h9 => h9) rfl dX11_count_57 ?_
    refine va_getN (D := D) (ci := 2) (v := .ref q_found_books) (C := RX2) (T := TX2) (N := 6) hx hb hts hn_X11_count_X2 hown hK hP 3 rfl rfl 0 (by decide) (va_Nw.use rfl (hN _ nw_X11_43)) (fun _ h9 => h9) rfl dX11_count_60 ?_
    refine va_getN (D := D) (ci := 0) (v := .int s_found_books_count) (C := RX0) (T := TX0) (N := 6) hx hb hts hn_X11_count_X0 hown hK hP 4 rfl rfl 5 (by decide) (va_Nw.use rfl (hN _ nw_X11_141)) (fun _ h9 => h9) rfl dX11_count_63 ?_
    cases hf
    exact m_iret hx hb hr hlocks hP hS dX11_count_66
  have hf := pbr_f c_4 hf
  by_cases c_5 : x1 = (2 : Int32)
  · have hf := pbr_t c_5 hf
    refine lv_tableIn (off := 66) (tgt := 67) hx hb dX11_count_1 (by rw [c_5]; decide) (by rw [c_5]; decide) (by rw [c_5]; rfl) (by decide) ?_
    refine lv_aload_n hx hb dX11_count_67 rfl (lv_at hl 0 rfl) ?_
    refine va_get (D := D) (ci := 11) (v := .ref q_calendar) (C := RX11) (T := TX11) (N := 11) hx hb hts hn_X11_count_X11 hown hK hP 0 rfl rfl 8 (by decide) (hts _ hw_X11_count_f73) (fun _ h9 => h9) rfl dX11_count_68 ?_
    refine va_getN (D := D) (ci := 1) (v := .int s_calendar_years) (C := RX1) (T := TX1) (N := 3) hx hb hts hn_X11_count_X1 hown hK hP 5 rfl rfl 2 (by decide) (va_Nw.use rfl (hN _ nw_X11_180)) (fun _ h9 => h9) rfl dX11_count_71 ?_
    cases hf
    exact m_iret hx hb hr hlocks hP hS dX11_count_74
  have hf := pbr_f c_5 hf
  by_cases c_6 : x1 = (3 : Int32)
  · have hf := pbr_t c_6 hf
    refine lv_tableIn (off := 74) (tgt := 75) hx hb dX11_count_1 (by rw [c_6]; decide) (by rw [c_6]; decide) (by rw [c_6]; rfl) (by decide) ?_
    refine lv_aload_n hx hb dX11_count_75 rfl (lv_at hl 0 rfl) ?_
    refine va_get (D := D) (ci := 11) (v := .ref q_trees) (C := RX11) (T := TX11) (N := 11) hx hb hts hn_X11_count_X11 hown hK hP 0 rfl rfl 2 (by decide) (hts _ hw_X11_count_f26) (fun _ h9 => h9) rfl dX11_count_76 ?_
    refine va_getN (D := D) (ci := 10) (v := .int s_trees_livingCount) (C := RX10) (T := TX10) (N := 6) hx hb hts hn_X11_count_X10 hown hK hP 6 rfl rfl 4 (by decide) (va_Nw.use rfl (hN _ nw_X11_204)) (fun _ h9 => h9) rfl dX11_count_79 ?_
    cases hf
    exact m_iret hx hb hr hlocks hP hS dX11_count_82
  have hf := pbr_f c_6 hf
  by_cases c_7 : x1 = (4 : Int32)
  · have hf := pbr_t c_7 hf
    refine lv_tableIn (off := 82) (tgt := 83) hx hb dX11_count_1 (by rw [c_7]; decide) (by rw [c_7]; decide) (by rw [c_7]; rfl) (by decide) ?_
    refine lv_aload_n hx hb dX11_count_83 rfl (lv_at hl 0 rfl) ?_
    refine va_get (D := D) (ci := 11) (v := .ref q_found) (C := RX11) (T := TX11) (N := 11) hx hb hts hn_X11_count_X11 hown hK hP 0 rfl rfl 3 (by decide) (hts _ hw_X11_count_f33) (fun _ h9 => h9) rfl dX11_count_84 ?_
    refine va_getN (D := D) (ci := 2) (v := .ref q_found_sheets) (C := RX2) (T := TX2) (N := 6) hx hb hts hn_X11_count_X2 hown hK hP 3 rfl rfl 1 (by decide) (va_Nw.use rfl (hN _ nw_X11_250)) (fun _ h9 => h9) rfl dX11_count_87 ?_
    refine va_getN (D := D) (ci := 6) (v := .int s_found_sheets_count) (C := RX6) (T := TX6) (N := 4) hx hb hts hn_X11_count_X6 hown hK hP 7 rfl rfl 3 (by decide) (va_Nw.use rfl (hN _ nw_X11_254)) (fun _ h9 => h9) rfl dX11_count_90 ?_
    cases hf
    exact m_iret hx hb hr hlocks hP hS dX11_count_93
  have hf := pbr_f c_7 hf
  by_cases c_8 : x1 = (5 : Int32)
  · have hf := pbr_t c_8 hf
    refine lv_tableIn (off := 93) (tgt := 94) hx hb dX11_count_1 (by rw [c_8]; decide) (by rw [c_8]; decide) (by rw [c_8]; rfl) (by decide) ?_
    refine lv_aload_n hx hb dX11_count_94 rfl (lv_at hl 0 rfl) ?_
    refine va_get (D := D) (ci := 11) (v := .ref q_found) (C := RX11) (T := TX11) (N := 11) hx hb hts hn_X11_count_X11 hown hK hP 0 rfl rfl 3 (by decide) (hts _ hw_X11_count_f33) (fun _ h9 => h9) rfl dX11_count_95 ?_
    refine va_getN (D := D) (ci := 2) (v := .ref q_found_known) (C := RX2) (T := TX2) (N := 6) hx hb hts hn_X11_count_X2 hown hK hP 3 rfl rfl 2 (by decide) (va_Nw.use rfl (hN _ nw_X11_290)) (fun _ h9 => h9) rfl dX11_count_98 ?_
    refine va_getN (D := D) (ci := 3) (v := .int s_found_known_count) (C := RX3) (T := TX3) (N := 2) hx hb hts hn_X11_count_X3 hown hK hP 8 rfl rfl 1 (by decide) (va_Nw.use rfl (hN _ nw_X11_299)) (fun _ h9 => h9) rfl dX11_count_101 ?_
    cases hf
    exact m_iret hx hb hr hlocks hP hS dX11_count_104
  have hf := pbr_f c_8 hf
  by_cases c_9 : x1 = (6 : Int32)
  · have hf := pbr_t c_9 hf
    refine lv_tableIn (off := 104) (tgt := 105) hx hb dX11_count_1 (by rw [c_9]; decide) (by rw [c_9]; decide) (by rw [c_9]; rfl) (by decide) ?_
    refine lv_aload_n hx hb dX11_count_105 rfl (lv_at hl 0 rfl) ?_
    refine va_get (D := D) (ci := 11) (v := .ref q_found) (C := RX11) (T := TX11) (N := 11) hx hb hts hn_X11_count_X11 hown hK hP 0 rfl rfl 3 (by decide) (hts _ hw_X11_count_f33) (fun _ h9 => h9) rfl dX11_count_106 ?_
    obtain ⟨r_10, hc_11, hf⟩ := pcl_e hf
    refine m_callV (As := []) (rest := []) ⟨hx, hb, hml, hown, hts⟩ hX (ct_X2_dugCount l D cA q_found q_found_books q_found_sheets q_found_known q_found_weights s_found_dugMarshes s_found_kept r_10 hc_11) (cwV 0 hts gX11_count_X2_dugCount rfl rfl rfl (by decide +kernel) ⟨Nat.le_of_ble_eq_true rfl, Nat.le_of_ble_eq_true rfl⟩) hP hD hS hA [3] (by decide) rfl rfl (WS' := (w_X11_count a0 q_ocean q_ocean_depths q_found q_found_books q_calendar q_trees q_found_sheets q_found_known q_text q_images q_search q_stories q_signs q_draft q_ocean_figures q_ocean_times q_found_weights q_found_books_cells q_found_books_froms q_found_books_tos q_found_books_lows q_found_books_highs q_calendar_lengths q_calendar_months q_trees_livingRings q_trees_woodRings q_trees_woodCounts q_trees_ends q_found_sheets_marshes q_found_sheets_olds q_found_sheets_youngs q_found_known_years q_text_bytes cA s_yearOfNow s_ocean_pace s_ocean_fade s_ocean_depths s_found_dugMarshes s_found_kept s_found_books_count s_calendar_years s_trees_livingCount s_trees_firstYear s_found_sheets_count s_found_known_count s_text_length)) rfl 3 2 rfl rfl rfl hl.1 rfl (st' := [.int r_10]) rfl (Nat.le_of_ble_eq_true rfl) ⟨Nat.zero_le _, Nat.zero_le _⟩ dX11_count_109 (fun H locs hP hD hS => ?_)
    cases hf
    exact m_iret hx hb hr hlocks hP hS dX11_count_112
  have hf := pbr_f c_9 hf
  by_cases c_12 : x1 = (7 : Int32)
  · have hf := pbr_t c_12 hf
    refine lv_tableIn (off := 112) (tgt := 113) hx hb dX11_count_1 (by rw [c_12]; decide) (by rw [c_12]; decide) (by rw [c_12]; rfl) (by decide) ?_
    refine lv_aload_n hx hb dX11_count_113 rfl (lv_at hl 0 rfl) ?_
    refine va_get (D := D) (ci := 11) (v := .ref q_text) (C := RX11) (T := TX11) (N := 11) hx hb hts hn_X11_count_X11 hown hK hP 0 rfl rfl 0 (by decide) (hts _ hw_X11_count_f12) (fun _ h9 => h9) rfl dX11_count_114 ?_
    refine va_getN (D := D) (ci := 9) (v := .int s_text_length) (C := RX9) (T := TX9) (N := 2) hx hb hts hn_X11_count_X9 hown hK hP 9 rfl rfl 1 (by decide) (va_Nw.use rfl (hN _ nw_X11_88)) (fun _ h9 => h9) rfl dX11_count_117 ?_
    cases hf
    exact m_iret hx hb hr hlocks hP hS dX11_count_120
  have hf := pbr_f c_12 hf
  refine lv_tableOut (tgt := 121) hx hb dX11_count_1 (by have := lv_neT (a := 0) c_1 (by decide); have := lv_neT (a := 1) c_4 (by decide); have := lv_neT (a := 2) c_5 (by decide); have := lv_neT (a := 3) c_6 (by decide); have := lv_neT (a := 4) c_7 (by decide); have := lv_neT (a := 5) c_8 (by decide); have := lv_neT (a := 6) c_9 (by decide); have := lv_neT (a := 7) c_12 (by decide); omega) (by decide) ?_
  refine lv_iconst (v := (-1 : Int32)) hx hb dX11_count_121 (by decide) ?_
  cases hf
  exact m_iret hx hb hr hlocks hP hS dX11_count_122

/-! ===== OrphanWave.trace()J ===== -/
abbrev rm_X11_trace : Room := { frames := 0, cells := 0, slots := 0, locals := 0 }
abbrev w_X11_trace (a0 : Nat) (q_signs : Nat) (q_text : Nat) (q_ocean : Nat) (q_trees : Nat) (q_found : Nat) (q_images : Nat) (q_search : Nat) (q_stories : Nat) (q_calendar : Nat) (q_draft : Nat) (cA : Nat → ClassId) (s_yearOfNow : Int32) (s_signs_trace : Int64) : va_W := [(a0, .inr (11, [.ref q_text, .ref q_ocean, .ref q_trees, .ref q_found, .ref q_images, .ref q_search, .ref q_stories, .ref q_signs, .ref q_calendar, .ref q_draft, .int s_yearOfNow])), (q_signs, .inr (7, [.ref q_found, .long s_signs_trace]))]
theorem hn_X11_trace_X11 : ∀ w ∈ u_ws RX11 TX11 11, w ∈ wsX11_trace := by decide +kernel
theorem hn_X11_trace_X7 : ∀ w ∈ u_ws RX7 TX7 2, w ∈ wsX11_trace := by decide +kernel
theorem hw_X11_trace_f66 : Cond.fieldLink RX11 66 "OrphanWave" "signs" "LOrphanWave$Signs;" ∈ wsX11_trace := by decide +kernel

def f_X11_trace (s_signs_trace : Int64) : Option ((Int64)) :=
  some (s_signs_trace)

set_option maxRecDepth 100000 in
set_option maxHeartbeats 4000000 in
theorem ct_X11_trace (l : Launch) (D : va_G) (cA : Nat → ClassId) (a0 : Nat) (q_signs : Nat) (q_text : Nat) (q_ocean : Nat) (q_trees : Nat) (q_found : Nat) (q_images : Nat) (q_search : Nat) (q_stories : Nat) (q_calendar : Nat) (q_draft : Nat) (s_yearOfNow : Int32) (s_signs_trace : Int64) (o_r : Int64) (hf : f_X11_trace s_signs_trace = some o_r) : CT l yX11_trace wsX11_trace rm_X11_trace D cA [.ref a0] (w_X11_trace a0 q_signs q_text q_ocean q_trees q_found q_images q_search q_stories q_calendar q_draft cA s_yearOfNow s_signs_trace) (w_X11_trace a0 q_signs q_text q_ocean q_trees q_found q_images q_search q_stories q_calendar q_draft cA s_yearOfNow s_signs_trace) (some (.long o_r)) := by
  refine CT.ofW (cc := cX11_trace) (maxL := 1) (ret := (some .long)) (by decide +kernel) rfl (Nat.le_of_ble_eq_true rfl) ?_
  intro p e s m below meth c A C0 hA hP hD ls hl
  have C0 : MX p s m [.ref a0].toArray meth c cX11_trace 1 wsX11_trace RX11 (some .long) D cA := C0
  have hl : lv_has ls 1 [(0, .ref a0)] := hl
  obtain ⟨hx, hb, hml, hown, hts, hr, hlocks, hX⟩ := id C0
  have hK := hX.1
  have hN := hX.2
  have hS : va_S A s.heap s.heap [] := va_S.rf
  unfold f_X11_trace at hf
  refine lv_aload_n hx hb dX11_trace_0 rfl (lv_at hl 0 rfl) ?_
  refine va_get (D := D) (ci := 11) (v := .ref q_signs) (C := RX11) (T := TX11) (N := 11) hx hb hts hn_X11_trace_X11 hown hK hP 0 rfl rfl 7 (by decide) (hts _ hw_X11_trace_f66) (fun _ h9 => h9) rfl dX11_trace_1 ?_
  refine va_getN (D := D) (ci := 7) (v := .long s_signs_trace) (C := RX7) (T := TX7) (N := 2) hx hb hts hn_X11_trace_X7 hown hK hP 1 rfl rfl 1 (by decide) (va_Nw.use rfl (hN _ nw_X11_373)) (fun _ h9 => h9) rfl dX11_trace_4 ?_
  cases hf
  exact m_lret hx hb hr hlocks hP hS dX11_trace_7
