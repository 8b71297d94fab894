/-! ===== OrphanWave.type(JI)I ===== -/
abbrev rm_X11_type : Room := { frames := 1, cells := 0, slots := 0, locals := 22 }
abbrev w_X11_type (a0 : Nat) (q_text : Nat) (q_text_bytes : Nat) (q_ocean : Nat) (q_trees : Nat) (q_found : Nat) (q_images : Nat) (q_search : Nat) (q_stories : Nat) (q_signs : Nat) (q_calendar : Nat) (q_draft : Nat) (cA : Nat → ClassId) (s_yearOfNow : Int32) (s_text_length : Int32) (s_text_bytes : Nat → Int32) : va_W := [(a0, .inr (11, [.ref q_text, .ref q_ocean, .ref q_trees, .ref q_found, .ref q_images, .ref q_search, .ref q_stories, .ref q_signs, .ref q_calendar, .ref q_draft, .int s_yearOfNow])), (q_text, .inr (9, [.ref q_text_bytes, .int s_text_length])), (q_text_bytes, .inl (cA 0, 400, .inl s_text_bytes))]
theorem hn_X11_type_X11 : ∀ w ∈ u_ws RX11 TX11 11, w ∈ wsX11_type := by decide +kernel
theorem hn_X11_type_X9 : ∀ w ∈ u_ws RX9 TX9 2, w ∈ wsX11_type := by decide +kernel
theorem hw_X11_type_f12 : Cond.fieldLink RX11 12 "OrphanWave" "text" "LOrphanWave$Text;" ∈ wsX11_type := by decide +kernel

def f_X11_type_35 (x1 : Int64) (x3 : Int32) : Nat → (Int32) → (Int32) → (Nat → Int32) → Option ((Int32) × (Int32) × (Nat → Int32))
  | 0, _, _, _ => none
  | k + 1, x4, s_text_length, s_text_bytes =>
    pbr (x4 < 0)
      (some (s_text_length, s_text_length, s_text_bytes))
      (pcl (f_X9_append (x1.toUInt64 >>> (((8 : Int32) * x4).toInt64.toUInt64 &&& Int64.toUInt64 63)).toInt64.toInt32.toInt8.toInt32 s_text_length s_text_bytes) (fun (length_2, bytes_3) => (
      plt (x4 + (-1 : Int32) : Int32) (fun x4_5 => (
      (f_X11_type_35 x1 x3 k) x4_5 length_2 bytes_3)))))

set_option maxRecDepth 100000 in
set_option maxHeartbeats 4000000 in
theorem k_X11_type_35 {p : Program} {l : Launch} {e : Env} {s : State} {m : MethodId} {args : Array Value} {below : List Frame} {meth : Method} {c : Code} {A : Nat → Prop} {D : va_G} {cA : Nat → ClassId} (C0 : MX p s m args meth c cX11_type 5 wsX11_type RX11 (some .int) D cA) (hA : ∀ q, s.heap.size ≤ q → A q) {a0 : Nat} {q_text : Nat} {q_text_bytes : Nat} {q_ocean : Nat} {q_trees : Nat} {q_found : Nat} {q_images : Nat} {q_search : Nat} {q_stories : Nat} {q_signs : Nat} {q_calendar : Nat} {q_draft : Nat} {s_yearOfNow : Int32} {x1 : Int64} {x3 : Int32} {o_r : Int32} {o_text_length : Int32} {o_text_bytes : Nat → Int32} : ∀ (k : Nat) (x4 : Int32) (s_text_length : Int32) (s_text_bytes : Nat → Int32), f_X11_type_35 x1 x3 k x4 s_text_length s_text_bytes = some (o_r, o_text_length, o_text_bytes) → ∀ (H : Heap) (locs : List Loc), va_P D vwCl (w_X11_type a0 q_text q_text_bytes q_ocean q_trees q_found q_images q_search q_stories q_signs q_calendar q_draft cA s_yearOfNow s_text_length s_text_bytes) H → va_D A (w_X11_type a0 q_text q_text_bytes q_ocean q_trees q_found q_images q_search q_stories q_signs q_calendar q_draft cA s_yearOfNow s_text_length s_text_bytes) → va_S A s.heap H locs → ∀ ls : Array Slot, lv_has ls 5 [(0, .ref a0), (1, .long x1), (4, .int x4)] → W p l e rm_X11_type s m args below meth c H locs 0 0 (MQ below (CQ D (some (.int o_r)) (w_X11_type a0 q_text q_text_bytes q_ocean q_trees q_found q_images q_search q_stories q_signs q_calendar q_draft cA s_yearOfNow o_text_length o_text_bytes) A) args s 0 0 A) (F0 m 35 ls []) := by
  obtain ⟨hx, hb, hml, hown, hts, hr, hlocks, hX⟩ := C0
  have hK := hX.1
  have hN := hX.2
  intro k
  induction k with
  | zero =>
    intro x4 s_text_length s_text_bytes hf
    cases hf
  | succ k ih =>
    intro x4 s_text_length s_text_bytes hf H locs hP hD hS ls hl
    rw [f_X11_type_35] at hf
    refine lv_iload hx hb dX11_type_35 (lv_at hl 2 rfl) ?_
    refine lv_if_lt (tgt := 62) hx hb dX11_type_37 (by decide) (fun c_1 => ?_) (fun c_1 => ?_)
    · have hf := pbr_t c_1 hf
      refine lv_aload_n hx hb dX11_type_62 rfl (lv_at hl 0 rfl) ?_
      refine va_get (D := D) (ci := 11) (v := .ref q_text) (C := RX11) (T := TX11) (N := 11) hx hb hts hn_X11_type_X11 hown hK hP 0 rfl rfl 0 (by decide) (hts _ hw_X11_type_f12) (fun _ h9 => h9) rfl dX11_type_63 ?_
      refine va_getN (D := D) (ci := 9) (v := .int s_text_length) (C := RX9) (T := TX9) (N := 2) hx hb hts hn_X11_type_X9 hown hK hP 1 rfl rfl 1 (by decide) (va_Nw.use rfl (hN _ nw_X11_88)) (fun _ h9 => h9) rfl dX11_type_66 ?_
      obtain ⟨rfl, rfl, rfl⟩ := pe3 hf
      exact m_iret hx hb hr hlocks hP hS dX11_type_69
    have hf := pbr_f c_1 hf
    refine lv_aload_n hx hb dX11_type_40 rfl (lv_at hl 0 rfl) ?_
    refine va_get (D := D) (ci := 11) (v := .ref q_text) (C := RX11) (T := TX11) (N := 11) hx hb hts hn_X11_type_X11 hown hK hP 0 rfl rfl 0 (by decide) (hts _ hw_X11_type_f12) (fun _ h9 => h9) rfl dX11_type_41 ?_
    refine lv_lload_n hx hb dX11_type_44 rfl (lv_at hl 1 rfl) ?_
    refine lv_bipush (v := (8 : Int32)) hx hb dX11_type_45 (by decide) ?_
    refine lv_iload hx hb dX11_type_47 (lv_at hl 2 rfl) ?_
    refine lv_imul hx hb dX11_type_49 ?_
    refine lv_lushr hx hb dX11_type_50 rfl ?_
    refine lv_l2i hx hb dX11_type_51 rfl ?_
    refine lv_i2b hx hb dX11_type_52 rfl ?_
    obtain ⟨⟨length_2, bytes_3⟩, hc_4, hf⟩ := pcl_e hf
    refine m_callV2 (As := [.int (x1.toUInt64 >>> (((8 : Int32) * x4).toInt64.toUInt64 &&& Int64.toUInt64 63)).toInt64.toInt32.toInt8.toInt32]) (rest := []) ⟨hx, hb, hml, hown, hts⟩ hX (ct_X9_append l D cA (x1.toUInt64 >>> (((8 : Int32) * x4).toInt64.toUInt64 &&& Int64.toUInt64 63)).toInt64.toInt32.toInt8.toInt32 q_text q_text_bytes s_text_length s_text_bytes length_2 bytes_3 hc_4) (cwV 1 hts gX11_type_X9_append rfl rfl rfl (by decide +kernel) ⟨Nat.le_of_ble_eq_true rfl, Nat.le_of_ble_eq_true rfl⟩) hP hD hS hA [1, 2] [0] 3 (by decide) rfl rfl (WS' := (w_X11_type a0 q_text q_text_bytes q_ocean q_trees q_found q_images q_search q_stories q_signs q_calendar q_draft cA s_yearOfNow length_2 bytes_3)) (WR := [(a0, .inr (11, [.ref q_text, .ref q_ocean, .ref q_trees, .ref q_found, .ref q_images, .ref q_search, .ref q_stories, .ref q_signs, .ref q_calendar, .ref q_draft, .int s_yearOfNow]))]) rfl rfl rfl rfl (by decide) (by decide) 1 9 rfl rfl rfl hl.1 rfl (st' := []) rfl (Nat.le_of_ble_eq_true rfl) ⟨Nat.zero_le _, Nat.zero_le _⟩ dX11_type_53 (fun H locs hP hD hS => ?_)
    obtain ⟨x4_5, ex4_5⟩ : ∃ z : Int32, z = x4 + (-1 : Int32) := ⟨_, rfl⟩
    have hf := plt_e ex4_5 hf
    refine lv_iinc (v := x4_5) (lv' := [(4, .int x4_5), (0, .ref a0), (1, .long x1)]) hx hb dX11_type_56 hl (k := 2) rfl (by rw [ex4_5]; rfl) (by decide) rfl (fun ls hl => ?_)
    refine lv_goto (tgt := 35) hx hb dX11_type_59 (by decide) ?_
    exact ih x4_5 length_2 bytes_3 hf _ _ hP hD hS ls (lv_sub hl [1, 2, 0] rfl)

def f_X11_type (x1 : Int64) (x3 : Int32) (s_text_length : Int32) (s_text_bytes : Nat → Int32) : Option ((Int32) × (Int32) × (Nat → Int32)) :=
  pcl (f_X11_within x3 (1 : Int32) (8 : Int32)) (fun r_1 => (
  pbr (r_1 = 0)
    (some ((-1 : Int32), s_text_length, s_text_bytes))
    (pbr (x3 ≤ ((400 : Int32) - s_text_length))
      (plt ((x3 - (1 : Int32)) : Int32) (fun x4_5 => (
      f_X11_type_35 x1 x3 FU x4_5 s_text_length s_text_bytes)))
      (some ((-3 : Int32), s_text_length, s_text_bytes)))))

set_option maxRecDepth 100000 in
set_option maxHeartbeats 4000000 in
theorem ct_X11_type (l : Launch) (D : va_G) (cA : Nat → ClassId) (x1 : Int64) (x3 : Int32) (a0 : Nat) (q_text : Nat) (q_text_bytes : Nat) (q_ocean : Nat) (q_trees : Nat) (q_found : Nat) (q_images : Nat) (q_search : Nat) (q_stories : Nat) (q_signs : Nat) (q_calendar : Nat) (q_draft : Nat) (s_yearOfNow : Int32) (s_text_length : Int32) (s_text_bytes : Nat → Int32) (o_r : Int32) (o_text_length : Int32) (o_text_bytes : Nat → Int32) (hf : f_X11_type x1 x3 s_text_length s_text_bytes = some (o_r, o_text_length, o_text_bytes)) : CT l yX11_type wsX11_type rm_X11_type D cA [.ref a0, .long x1, .int x3] (w_X11_type a0 q_text q_text_bytes q_ocean q_trees q_found q_images q_search q_stories q_signs q_calendar q_draft cA s_yearOfNow s_text_length s_text_bytes) (w_X11_type a0 q_text q_text_bytes q_ocean q_trees q_found q_images q_search q_stories q_signs q_calendar q_draft cA s_yearOfNow o_text_length o_text_bytes) (some (.int o_r)) := by
  refine CT.ofW (cc := cX11_type) (maxL := 5) (ret := (some .int)) (by decide +kernel) rfl (Nat.le_of_ble_eq_true rfl) ?_
  intro p e s m below meth c A C0 hA hP hD ls hl
  have C0 : MX p s m [.ref a0, .long x1, .int x3].toArray meth c cX11_type 5 wsX11_type RX11 (some .int) D cA := C0
  have hl : lv_has ls 5 [(0, .ref a0), (1, .long x1), (3, .int x3)] := hl
  obtain ⟨hx, hb, hml, hown, hts, hr, hlocks, hX⟩ := id C0
  have hK := hX.1
  have hN := hX.2
  have hS : va_S A s.heap s.heap [] := va_S.rf
  unfold f_X11_type at hf
  refine lv_iload_n hx hb dX11_type_0 rfl (lv_at hl 2 rfl) ?_
  refine lv_iconst (v := (1 : Int32)) hx hb dX11_type_1 (by decide) ?_
  refine lv_bipush (v := (8 : Int32)) hx hb dX11_type_2 (by decide) ?_
  obtain ⟨r_1, hc_2, hf⟩ := pcl_e hf
  refine m_callS2 (As := [.int x3, .int (1 : Int32), .int (8 : Int32)]) (rest := []) ⟨hx, hb, hml, hown, hts⟩ hX (ct_X11_within l D cA x3 (1 : Int32) (8 : Int32) r_1 hc_2) (va_cwS 3 hts gX11_type_X11_within rfl rfl rfl (by decide +kernel) ⟨Nat.le_of_ble_eq_true rfl, Nat.le_of_ble_eq_true rfl⟩) hP hD hS hA [] [0, 1, 2] 3 (by decide) rfl rfl (WS' := (w_X11_type a0 q_text q_text_bytes q_ocean q_trees q_found q_images q_search q_stories q_signs q_calendar q_draft cA s_yearOfNow s_text_length s_text_bytes)) (WR := [(a0, .inr (11, [.ref q_text, .ref q_ocean, .ref q_trees, .ref q_found, .ref q_images, .ref q_search, .ref q_stories, .ref q_signs, .ref q_calendar, .ref q_draft, .int s_yearOfNow])), (q_text, .inr (9, [.ref q_text_bytes, .int s_text_length])), (q_text_bytes, .inl (cA 0, 400, .inl s_text_bytes))]) rfl rfl rfl rfl (by decide) (by decide) rfl hl.1 rfl (st' := [.int r_1]) rfl (Nat.le_of_ble_eq_true rfl) ⟨Nat.zero_le _, Nat.zero_le _⟩ dX11_type_4 (fun H locs hP hD hS => ?_)
  refine lv_if_ne (tgt := 12) hx hb dX11_type_7 (by decide) (fun c_3 => ?_) (fun c_3 => ?_)
  · have hf := pbr_f c_3 hf
    refine lv_iload_n hx hb dX11_type_12 rfl (lv_at hl 2 rfl) ?_
    refine lv_sipush (v := (400 : Int32)) hx hb dX11_type_13 (by decide) ?_
    refine lv_aload_n hx hb dX11_type_16 rfl (lv_at hl 0 rfl) ?_
    refine va_get (D := D) (ci := 11) (v := .ref q_text) (C := RX11) (T := TX11) (N := 11) hx hb hts hn_X11_type_X11 hown hK hP 0 rfl rfl 0 (by decide) (hts _ hw_X11_type_f12) (fun _ h9 => h9) rfl dX11_type_17 ?_
    refine va_getN (D := D) (ci := 9) (v := .int s_text_length) (C := RX9) (T := TX9) (N := 2) hx hb hts hn_X11_type_X9 hown hK hP 1 rfl rfl 1 (by decide) (va_Nw.use rfl (hN _ nw_X11_88)) (fun _ h9 => h9) rfl dX11_type_20 ?_
    refine lv_isub hx hb dX11_type_23 ?_
    refine lv_icmp_le (tgt := 30) hx hb dX11_type_24 (by decide) (fun c_4 => ?_) (fun c_4 => ?_)
    · have hf := pbr_t c_4 hf
      refine lv_iload_n hx hb dX11_type_30 rfl (lv_at hl 2 rfl) ?_
      refine lv_iconst (v := (1 : Int32)) hx hb dX11_type_31 (by decide) ?_
      refine lv_isub hx hb dX11_type_32 ?_
      refine lv_topi (fun x4_5 ex4_5 => ?_)
      have hf := plt_e ex4_5 hf
      refine lv_istore (lv' := [(4, .int x4_5), (0, .ref a0), (1, .long x1), (3, .int x3)]) hx hb dX11_type_33 hl (by decide) rfl (fun ls hl => ?_)
      exact k_X11_type_35 C0 hA FU x4_5 s_text_length s_text_bytes hf _ _ hP hD hS ls (lv_sub hl [1, 2, 0] rfl)
    have hf := pbr_f c_4 hf
    refine lv_bipush (v := (-3 : Int32)) hx hb dX11_type_27 (by decide) ?_
    obtain ⟨rfl, rfl, rfl⟩ := pe3 hf
    exact m_iret hx hb hr hlocks hP hS dX11_type_29
  have hf := pbr_t c_3 hf
  refine lv_iconst (v := (-1 : Int32)) hx hb dX11_type_10 (by decide) ?_
  obtain ⟨rfl, rfl, rfl⟩ := pe3 hf
  exact m_iret hx hb hr hlocks hP hS dX11_type_11

/-! ===== OrphanWave.clear()I ===== -/
abbrev rm_X11_clear : Room := { frames := 1, cells := 0, slots := 0, locals := 21 }
abbrev w_X11_clear (a0 : Nat) (q_text : Nat) (q_ocean : Nat) (q_trees : Nat) (q_found : Nat) (q_images : Nat) (q_search : Nat) (q_stories : Nat) (q_signs : Nat) (q_calendar : Nat) (q_draft : Nat) (q_text_bytes : Nat) (cA : Nat → ClassId) (s_yearOfNow : Int32) (s_text_length : Int32) : va_W := [(a0, .inr (11, [.ref q_text, .ref q_ocean, .ref q_trees, .ref q_found, .ref q_images, .ref q_search, .ref q_stories, .ref q_signs, .ref q_calendar, .ref q_draft, .int s_yearOfNow])), (q_text, .inr (9, [.ref q_text_bytes, .int s_text_length]))]
theorem hn_X11_clear_X11 : ∀ w ∈ u_ws RX11 TX11 11, w ∈ wsX11_clear := by decide +kernel
theorem hw_X11_clear_f12 : Cond.fieldLink RX11 12 "OrphanWave" "text" "LOrphanWave$Text;" ∈ wsX11_clear := by decide +kernel

def f_X11_clear (s_text_length : Int32) : Option ((Int32) × (Int32)) :=
  pcl (f_X9_empty s_text_length) (fun (r_1, length_2) => (
  some (r_1, length_2)))

set_option maxRecDepth 100000 in
set_option maxHeartbeats 4000000 in
theorem ct_X11_clear (l : Launch) (D : va_G) (cA : Nat → ClassId) (a0 : Nat) (q_text : Nat) (q_ocean : Nat) (q_trees : Nat) (q_found : Nat) (q_images : Nat) (q_search : Nat) (q_stories : Nat) (q_signs : Nat) (q_calendar : Nat) (q_draft : Nat) (q_text_bytes : Nat) (s_yearOfNow : Int32) (s_text_length : Int32) (o_r : Int32) (o_text_length : Int32) (hf : f_X11_clear s_text_length = some (o_r, o_text_length)) : CT l yX11_clear wsX11_clear rm_X11_clear D cA [.ref a0] (w_X11_clear a0 q_text q_ocean q_trees q_found q_images q_search q_stories q_signs q_calendar q_draft q_text_bytes cA s_yearOfNow s_text_length) (w_X11_clear a0 q_text q_ocean q_trees q_found q_images q_search q_stories q_signs q_calendar q_draft q_text_bytes cA s_yearOfNow o_text_length) (some (.int o_r)) := by
  refine CT.ofW (cc := cX11_clear) (maxL := 1) (ret := (some .int)) (by decide +kernel) rfl (Nat.le_of_ble_eq_true rfl) ?_
  intro p e s m below meth c A C0 hA hP hD ls hl
  have C0 : MX p s m [.ref a0].toArray meth c cX11_clear 1 wsX11_clear RX11 (some .int) D cA := C0
  have hl : lv_has ls 1 [(0, .ref a0)] := hl
  obtain ⟨hx, hb, hml, hown, hts, hr, hlocks, hX⟩ := id C0
  have hK := hX.1
  have hN := hX.2
  have hS : va_S A s.heap s.heap [] := va_S.rf
  unfold f_X11_clear at hf
  refine lv_aload_n hx hb dX11_clear_0 rfl (lv_at hl 0 rfl) ?_
  refine va_get (D := D) (ci := 11) (v := .ref q_text) (C := RX11) (T := TX11) (N := 11) hx hb hts hn_X11_clear_X11 hown hK hP 0 rfl rfl 0 (by decide) (hts _ hw_X11_clear_f12) (fun _ h9 => h9) rfl dX11_clear_1 ?_
  obtain ⟨⟨r_1, length_2⟩, hc_3, hf⟩ := pcl_e hf
  refine m_callV2 (As := []) (rest := []) ⟨hx, hb, hml, hown, hts⟩ hX (ct_X9_empty l D cA q_text q_text_bytes s_text_length r_1 length_2 hc_3) (cwV 0 hts gX11_clear_X9_empty rfl rfl rfl (by decide +kernel) ⟨Nat.le_of_ble_eq_true rfl, Nat.le_of_ble_eq_true rfl⟩) hP hD hS hA [1] [0] 2 (by decide) rfl rfl (WS' := (w_X11_clear a0 q_text q_ocean q_trees q_found q_images q_search q_stories q_signs q_calendar q_draft q_text_bytes cA s_yearOfNow length_2)) (WR := [(a0, .inr (11, [.ref q_text, .ref q_ocean, .ref q_trees, .ref q_found, .ref q_images, .ref q_search, .ref q_stories, .ref q_signs, .ref q_calendar, .ref q_draft, .int s_yearOfNow]))]) rfl rfl rfl rfl (by decide) (by decide) 1 9 rfl rfl rfl hl.1 rfl (st' := [.int r_1]) rfl (Nat.le_of_ble_eq_true rfl) ⟨Nat.zero_le _, Nat.zero_le _⟩ dX11_clear_4 (fun H locs hP hD hS => ?_)
  obtain ⟨rfl, rfl⟩ := pe2 hf
  exact m_iret hx hb hr hlocks hP hS dX11_clear_7

/-! ===== OrphanWave.ocean()I ===== -/
abbrev rm_X11_ocean : Room := { frames := 4, cells := 0, slots := 0, locals := 89 }
abbrev w_X11_ocean (a0 : Nat) (q_ocean : Nat) (q_text : Nat) (q_text_bytes : Nat) (q_ocean_figures : Nat) (q_ocean_depths : Nat) (q_trees : Nat) (q_found : Nat) (q_images : Nat) (q_search : Nat) (q_stories : Nat) (q_signs : Nat) (q_calendar : Nat) (q_draft : Nat) (q_ocean_times : Nat) (cA : Nat → ClassId) (s_yearOfNow : Int32) (s_ocean_pace : Int32) (s_ocean_fade : Int32) (s_text_length : Int32) (s_text_bytes : Nat → Int32) (s_ocean_figures : Nat → Int32) (s_ocean_depths : Nat → Int32) : va_W := [(a0, .inr (11, [.ref q_text, .ref q_ocean, .ref q_trees, .ref q_found, .ref q_images, .ref q_search, .ref q_stories, .ref q_signs, .ref q_calendar, .ref q_draft, .int s_yearOfNow])), (q_ocean, .inr (4, [.ref q_ocean_depths, .ref q_ocean_figures, .ref q_ocean_times, .int s_ocean_pace, .int s_ocean_fade])), (q_text, .inr (9, [.ref q_text_bytes, .int s_text_length])), (q_text_bytes, .inl (cA 0, 400, .inl s_text_bytes)), (q_ocean_figures, .inl (cA 1, 48, .inl s_ocean_figures)), (q_ocean_depths, .inl (cA 1, 48, .inl s_ocean_depths))]
theorem hn_X11_ocean_X11 : ∀ w ∈ u_ws RX11 TX11 11, w ∈ wsX11_ocean := by decide +kernel
theorem hw_X11_ocean_f19 : Cond.fieldLink RX11 19 "OrphanWave" "ocean" "LOrphanWave$Ocean;" ∈ wsX11_ocean := by decide +kernel
theorem hw_X11_ocean_f12 : Cond.fieldLink RX11 12 "OrphanWave" "text" "LOrphanWave$Text;" ∈ wsX11_ocean := by decide +kernel

def f_X11_ocean (s_text_length : Int32) (s_text_bytes : Nat → Int32) (s_ocean_figures : Nat → Int32) (s_ocean_depths : Nat → Int32) : Option ((Int32) × (Int32) × (Nat → Int32) × (Nat → Int32)) :=
  pcl (f_X4_become s_text_length s_text_bytes s_ocean_figures s_ocean_depths) (fun (r_1, figures_2, depths_3) => (
  pbr (r_1 = (-1 : Int32))
    (pcl (f_X9_empty s_text_length) (fun (r_6, length_7) => (
    pcl (f_X4_seaCells depths_3) (fun r_9 => (
    some (r_9, length_7, figures_2, depths_3))))))
    (some (((-10 : Int32) - r_1), s_text_length, figures_2, depths_3))))

set_option maxRecDepth 100000 in
set_option maxHeartbeats 4000000 in
theorem ct_X11_ocean (l : Launch) (D : va_G) (cA : Nat → ClassId) (a0 : Nat) (q_ocean : Nat) (q_text : Nat) (q_text_bytes : Nat) (q_ocean_figures : Nat) (q_ocean_depths : Nat) (q_trees : Nat) (q_found : Nat) (q_images : Nat) (q_search : Nat) (q_stories : Nat) (q_signs : Nat) (q_calendar : Nat) (q_draft : Nat) (q_ocean_times : Nat) (s_yearOfNow : Int32) (s_ocean_pace : Int32) (s_ocean_fade : Int32) (s_text_length : Int32) (s_text_bytes : Nat → Int32) (s_ocean_figures : Nat → Int32) (s_ocean_depths : Nat → Int32) (o_r : Int32) (o_text_length : Int32) (o_ocean_figures : Nat → Int32) (o_ocean_depths : Nat → Int32) (hf : f_X11_ocean s_text_length s_text_bytes s_ocean_figures s_ocean_depths = some (o_r, o_text_length, o_ocean_figures, o_ocean_depths)) : CT l yX11_ocean wsX11_ocean rm_X11_ocean D cA [.ref a0] (w_X11_ocean a0 q_ocean q_text q_text_bytes q_ocean_figures q_ocean_depths q_trees q_found q_images q_search q_stories q_signs q_calendar q_draft q_ocean_times cA s_yearOfNow s_ocean_pace s_ocean_fade s_text_length s_text_bytes s_ocean_figures s_ocean_depths) (w_X11_ocean a0 q_ocean q_text q_text_bytes q_ocean_figures q_ocean_depths q_trees q_found q_images q_search q_stories q_signs q_calendar q_draft q_ocean_times cA s_yearOfNow s_ocean_pace s_ocean_fade o_text_length s_text_bytes o_ocean_figures o_ocean_depths) (some (.int o_r)) := by
  refine CT.ofW (cc := cX11_ocean) (maxL := 2) (ret := (some .int)) (by decide +kernel) rfl (Nat.le_of_ble_eq_true rfl) ?_
  intro p e s m below meth c A C0 hA hP hD ls hl
  have C0 : MX p s m [.ref a0].toArray meth c cX11_ocean 2 wsX11_ocean RX11 (some .int) D cA := C0
  have hl : lv_has ls 2 [(0, .ref a0)] := hl
  obtain ⟨hx, hb, hml, hown, hts, hr, hlocks, hX⟩ := id C0
  have hK := hX.1
  have hN := hX.2
  have hS : va_S A s.heap s.heap [] := va_S.rf
  unfold f_X11_ocean at hf
  refine lv_aload_n hx hb dX11_ocean_0 rfl (lv_at hl 0 rfl) ?_
  refine va_get (D := D) (ci := 11) (v := .ref q_ocean) (C := RX11) (T := TX11) (N := 11) hx hb hts hn_X11_ocean_X11 hown hK hP 0 rfl rfl 1 (by decide) (hts _ hw_X11_ocean_f19) (fun _ h9 => h9) rfl dX11_ocean_1 ?_
  refine lv_aload_n hx hb dX11_ocean_4 rfl (lv_at hl 0 rfl) ?_
  refine va_get (D := D) (ci := 11) (v := .ref q_text) (C := RX11) (T := TX11) (N := 11) hx hb hts hn_X11_ocean_X11 hown hK hP 0 rfl rfl 0 (by decide) (hts _ hw_X11_ocean_f12) (fun _ h9 => h9) rfl dX11_ocean_5 ?_
  obtain ⟨⟨r_1, figures_2, depths_3⟩, hc_4, hf⟩ := pcl_e hf
  refine m_callV2 (As := [.ref q_text]) (rest := []) ⟨hx, hb, hml, hown, hts⟩ hX (ct_X4_become l D cA q_ocean q_text q_text_bytes q_ocean_figures q_ocean_depths q_ocean_times s_ocean_pace s_ocean_fade s_text_length s_text_bytes s_ocean_figures s_ocean_depths r_1 figures_2 depths_3 hc_4) (cwV 1 hts gX11_ocean_X4_become rfl rfl rfl (by decide +kernel) ⟨Nat.le_of_ble_eq_true rfl, Nat.le_of_ble_eq_true rfl⟩) hP hD hS hA [1, 2, 3, 4, 5] [0] 6 (by decide) rfl rfl (WS' := (w_X11_ocean a0 q_ocean q_text q_text_bytes q_ocean_figures q_ocean_depths q_trees q_found q_images q_search q_stories q_signs q_calendar q_draft q_ocean_times cA s_yearOfNow s_ocean_pace s_ocean_fade s_text_length s_text_bytes figures_2 depths_3)) (WR := [(a0, .inr (11, [.ref q_text, .ref q_ocean, .ref q_trees, .ref q_found, .ref q_images, .ref q_search, .ref q_stories, .ref q_signs, .ref q_calendar, .ref q_draft, .int s_yearOfNow]))]) rfl rfl rfl rfl (by decide) (by decide) 1 4 rfl rfl rfl hl.1 rfl (st' := [.int r_1]) rfl (Nat.le_of_ble_eq_true rfl) ⟨Nat.zero_le _, Nat.zero_le _⟩ dX11_ocean_8 (fun H locs hP hD hS => ?_)
  refine lv_istore_n (lv' := [(1, .int r_1), (0, .ref a0)]) hx hb dX11_ocean_11 rfl hl (by decide) rfl (fun ls hl => ?_)
  refine lv_iload_n hx hb dX11_ocean_12 rfl (lv_at hl 0 rfl) ?_
  refine lv_iconst (v := (-1 : Int32)) hx hb dX11_ocean_13 (by decide) ?_
  refine lv_icmp_eq (tgt := 22) hx hb dX11_ocean_14 (by decide) (fun c_5 => ?_) (fun c_5 => ?_)
  · have hf := pbr_t c_5 hf
    refine lv_aload_n hx hb dX11_ocean_22 rfl (lv_at hl 1 rfl) ?_
    refine va_get (D := D) (ci := 11) (v := .ref q_text) (C := RX11) (T := TX11) (N := 11) hx hb hts hn_X11_ocean_X11 hown hK hP 0 rfl rfl 0 (by decide) (hts _ hw_X11_ocean_f12) (fun _ h9 => h9) rfl dX11_ocean_23 ?_
    obtain ⟨⟨r_6, length_7⟩, hc_8, hf⟩ := pcl_e hf
    refine m_callV2 (As := []) (rest := []) ⟨hx, hb, hml, hown, hts⟩ hX (ct_X9_empty l D cA q_text q_text_bytes s_text_length r_6 length_7 hc_8) (cwV 0 hts gX11_ocean_X9_empty rfl rfl rfl (by decide +kernel) ⟨Nat.le_of_ble_eq_true rfl, Nat.le_of_ble_eq_true rfl⟩) hP hD hS hA [2] [0, 1, 3, 4, 5] 6 (by decide) rfl rfl (WS' := (w_X11_ocean a0 q_ocean q_text q_text_bytes q_ocean_figures q_ocean_depths q_trees q_found q_images q_search q_stories q_signs q_calendar q_draft q_ocean_times cA s_yearOfNow s_ocean_pace s_ocean_fade length_7 s_text_bytes figures_2 depths_3)) (WR := [(a0, .inr (11, [.ref q_text, .ref q_ocean, .ref q_trees, .ref q_found, .ref q_images, .ref q_search, .ref q_stories, .ref q_signs, .ref q_calendar, .ref q_draft, .int s_yearOfNow])), (q_ocean, .inr (4, [.ref q_ocean_depths, .ref q_ocean_figures, .ref q_ocean_times, .int s_ocean_pace, .int s_ocean_fade])), (q_text_bytes, .inl (cA 0, 400, .inl s_text_bytes)), (q_ocean_figures, .inl (cA 1, 48, .inl figures_2)), (q_ocean_depths, .inl (cA 1, 48, .inl depths_3))]) rfl rfl rfl rfl (by decide) (by decide) 2 9 rfl rfl rfl hl.1 rfl (st' := [.int r_6]) rfl (Nat.le_of_ble_eq_true rfl) ⟨Nat.zero_le _, Nat.zero_le _⟩ dX11_ocean_26 (fun H locs hP hD hS => ?_)
    refine lv_pop hx hb dX11_ocean_29 rfl ?_
    refine lv_aload_n hx hb dX11_ocean_30 rfl (lv_at hl 1 rfl) ?_
    refine va_get (D := D) (ci := 11) (v := .ref q_ocean) (C := RX11) (T := TX11) (N := 11) hx hb hts hn_X11_ocean_X11 hown hK hP 0 rfl rfl 1 (by decide) (hts _ hw_X11_ocean_f19) (fun _ h9 => h9) rfl dX11_ocean_31 ?_
    obtain ⟨r_9, hc_10, hf⟩ := pcl_e hf
    refine m_callV2 (As := []) (rest := []) ⟨hx, hb, hml, hown, hts⟩ hX (ct_X4_seaCells l D cA q_ocean q_ocean_depths q_ocean_figures q_ocean_times s_ocean_pace s_ocean_fade depths_3 r_9 hc_10) (cwV 0 hts gX11_ocean_X4_seaCells rfl rfl rfl (by decide +kernel) ⟨Nat.le_of_ble_eq_true rfl, Nat.le_of_ble_eq_true rfl⟩) hP hD hS hA [1, 5] [0, 2, 3, 4] 6 (by decide) rfl rfl (WS' := (w_X11_ocean a0 q_ocean q_text q_text_bytes q_ocean_figures q_ocean_depths q_trees q_found q_images q_search q_stories q_signs q_calendar q_draft q_ocean_times cA s_yearOfNow s_ocean_pace s_ocean_fade length_7 s_text_bytes figures_2 depths_3)) (WR := [(a0, .inr (11, [.ref q_text, .ref q_ocean, .ref q_trees, .ref q_found, .ref q_images, .ref q_search, .ref q_stories, .ref q_signs, .ref q_calendar, .ref q_draft, .int s_yearOfNow])), (q_text, .inr (9, [.ref q_text_bytes, .int length_7])), (q_text_bytes, .inl (cA 0, 400, .inl s_text_bytes)), (q_ocean_figures, .inl (cA 1, 48, .inl figures_2))]) rfl rfl rfl rfl (by decide) (by decide) 1 4 rfl rfl rfl hl.1 rfl (st' := [.int r_9]) rfl (Nat.le_of_ble_eq_true rfl) ⟨Nat.zero_le _, Nat.zero_le _⟩ dX11_ocean_34 (fun H locs hP hD hS => ?_)
    obtain ⟨rfl, rfl, rfl, rfl⟩ := pe4 hf
    exact m_iret hx hb hr hlocks hP hS dX11_ocean_37
  have hf := pbr_f c_5 hf
  refine lv_bipush (v := (-10 : Int32)) hx hb dX11_ocean_17 (by decide) ?_
  refine lv_iload_n hx hb dX11_ocean_19 rfl (lv_at hl 0 rfl) ?_
  refine lv_isub hx hb dX11_ocean_20 ?_
  obtain ⟨rfl, rfl, rfl, rfl⟩ := pe4 hf
  exact m_iret hx hb hr hlocks hP hS dX11_ocean_21

/-! ===== OrphanWave.depth(I)I ===== -/
abbrev rm_X11_depth : Room := { frames := 2, cells := 0, slots := 0, locals := 42 }
abbrev w_X11_depth (a0 : Nat) (q_ocean : Nat) (q_ocean_depths : Nat) (q_text : Nat) (q_trees : Nat) (q_found : Nat) (q_images : Nat) (q_search : Nat) (q_stories : Nat) (q_signs : Nat) (q_calendar : Nat) (q_draft : Nat) (q_ocean_figures : Nat) (q_ocean_times : Nat) (cA : Nat → ClassId) (s_yearOfNow : Int32) (s_ocean_pace : Int32) (s_ocean_fade : Int32) (s_ocean_depths : Nat → Int32) : va_W := [(a0, .inr (11, [.ref q_text, .ref q_ocean, .ref q_trees, .ref q_found, .ref q_images, .ref q_search, .ref q_stories, .ref q_signs, .ref q_calendar, .ref q_draft, .int s_yearOfNow])), (q_ocean, .inr (4, [.ref q_ocean_depths, .ref q_ocean_figures, .ref q_ocean_times, .int s_ocean_pace, .int s_ocean_fade])), (q_ocean_depths, .inl (cA 1, 48, .inl s_ocean_depths))]
theorem hn_X11_depth_X11 : ∀ w ∈ u_ws RX11 TX11 11, w ∈ wsX11_depth := by decide +kernel
theorem hn_X11_depth_X4 : ∀ w ∈ u_ws RX4 TX4 5, w ∈ wsX11_depth := by decide +kernel
theorem hw_X11_depth_f19 : Cond.fieldLink RX11 19 "OrphanWave" "ocean" "LOrphanWave$Ocean;" ∈ wsX11_depth := by decide +kernel

def f_X11_depth (x1 : Int32) (s_ocean_depths : Nat → Int32) : Option ((Int32)) :=
  pcl (f_X11_isCell x1) (fun r_1 => (
  pbr (r_1 = 0)
    (some ((-1 : Int32)))
    (pgd (pin x1 48) (
    some ((s_ocean_depths x1.toNatClampNeg))))))

set_option maxRecDepth 100000 in
set_option maxHeartbeats 4000000 in
theorem ct_X11_depth (l : Launch) (D : va_G) (cA : Nat → ClassId) (x1 : Int32) (a0 : Nat) (q_ocean : Nat) (q_ocean_depths : Nat) (q_text : Nat) (q_trees : Nat) (q_found : Nat) (q_images : Nat) (q_search : Nat) (q_stories : Nat) (q_signs : Nat) (q_calendar : Nat) (q_draft : Nat) (q_ocean_figures : Nat) (q_ocean_times : Nat) (s_yearOfNow : Int32) (s_ocean_pace : Int32) (s_ocean_fade : Int32) (s_ocean_depths : Nat → Int32) (o_r : Int32) (hf : f_X11_depth x1 s_ocean_depths = some o_r) : CT l yX11_depth wsX11_depth rm_X11_depth D cA [.ref a0, .int x1] (w_X11_depth a0 q_ocean q_ocean_depths q_text q_trees q_found q_images q_search q_stories q_signs q_calendar q_draft q_ocean_figures q_ocean_times cA s_yearOfNow s_ocean_pace s_ocean_fade s_ocean_depths) (w_X11_depth a0 q_ocean q_ocean_depths q_text q_trees q_found q_images q_search q_stories q_signs q_calendar q_draft q_ocean_figures q_ocean_times cA s_yearOfNow s_ocean_pace s_ocean_fade s_ocean_depths) (some (.int o_r)) := by
  refine CT.ofW (cc := cX11_depth) (maxL := 2) (ret := (some .int)) (by decide +kernel) rfl (Nat.le_of_ble_eq_true rfl) ?_
  intro p e s m below meth c A C0 hA hP hD ls hl
  have C0 : MX p s m [.ref a0, .int x1].toArray meth c cX11_depth 2 wsX11_depth RX11 (some .int) D cA := C0
  have hl : lv_has ls 2 [(0, .ref a0), (1, .int x1)] := hl
  obtain ⟨hx, hb, hml, hown, hts, hr, hlocks, hX⟩ := id C0
  have hK := hX.1
  have hN := hX.2
  have hS : va_S A s.heap s.heap [] := va_S.rf
  unfold f_X11_depth at hf
  refine lv_iload_n hx hb dX11_depth_0 rfl (lv_at hl 1 rfl) ?_
  obtain ⟨r_1, hc_2, hf⟩ := pcl_e hf
  refine m_callS2 (As := [.int x1]) (rest := []) ⟨hx, hb, hml, hown, hts⟩ hX (ct_X11_isCell l D cA x1 r_1 hc_2) (va_cwS 1 hts gX11_depth_X11_isCell rfl rfl rfl (by decide +kernel) ⟨Nat.le_of_ble_eq_true rfl, Nat.le_of_ble_eq_true rfl⟩) hP hD hS hA [] [0, 1, 2] 3 (by decide) rfl rfl (WS' := (w_X11_depth a0 q_ocean q_ocean_depths q_text q_trees q_found q_images q_search q_stories q_signs q_calendar q_draft q_ocean_figures q_ocean_times cA s_yearOfNow s_ocean_pace s_ocean_fade s_ocean_depths)) (WR := [(a0, .inr (11, [.ref q_text, .ref q_ocean, .ref q_trees, .ref q_found, .ref q_images, .ref q_search, .ref q_stories, .ref q_signs, .ref q_calendar, .ref q_draft, .int s_yearOfNow])), (q_ocean, .inr (4, [.ref q_ocean_depths, .ref q_ocean_figures, .ref q_ocean_times, .int s_ocean_pace, .int s_ocean_fade])), (q_ocean_depths, .inl (cA 1, 48, .inl s_ocean_depths))]) rfl rfl rfl rfl (by decide) (by decide) rfl hl.1 rfl (st' := [.int r_1]) rfl (Nat.le_of_ble_eq_true rfl) ⟨Nat.zero_le _, Nat.zero_le _⟩ dX11_depth_1 (fun H locs hP hD hS => ?_)
  refine lv_if_eq (tgt := 19) hx hb dX11_depth_4 (by decide) (fun c_3 => ?_) (fun c_3 => ?_)
  · have hf := pbr_t c_3 hf
    refine lv_iconst (v := (-1 : Int32)) hx hb dX11_depth_19 (by decide) ?_
    obtain rfl := pe1 hf
    exact m_iret hx hb hr hlocks hP hS dX11_depth_20
  have hf := pbr_f c_3 hf
  refine lv_aload_n hx hb dX11_depth_7 rfl (lv_at hl 0 rfl) ?_
  refine va_get (D := D) (ci := 11) (v := .ref q_ocean) (C := RX11) (T := TX11) (N := 11) hx hb hts hn_X11_depth_X11 hown hK hP 0 rfl rfl 1 (by decide) (hts _ hw_X11_depth_f19) (fun _ h9 => h9) rfl dX11_depth_8 ?_
  refine va_getN (D := D) (ci := 4) (v := .ref q_ocean_depths) (C := RX4) (T := TX4) (N := 5) hx hb hts hn_X11_depth_X4 hown hK hP 1 rfl rfl 0 (by decide) (va_Nw.use rfl (hN _ nw_X11_110)) (fun _ h9 => h9) rfl dX11_depth_11 ?_
  refine lv_iload_n hx hb dX11_depth_14 rfl (lv_at hl 1 rfl) ?_
  obtain ⟨g_4, hf⟩ := pgd_e hf
  refine va_iald hx hb hK hP 2 1 rfl rfl g_4 dX11_depth_15 ?_
  refine lv_goto (tgt := 20) hx hb dX11_depth_16 (by decide) ?_
  obtain rfl := pe1 hf
  exact m_iret hx hb hr hlocks hP hS dX11_depth_20

/-! ===== OrphanWave.tune(II)I ===== -/
abbrev rm_X11_tune : Room := { frames := 2, cells := 0, slots := 0, locals := 42 }
abbrev w_X11_tune (a0 : Nat) (q_ocean : Nat) (q_text : Nat) (q_trees : Nat) (q_found : Nat) (q_images : Nat) (q_search : Nat) (q_stories : Nat) (q_signs : Nat) (q_calendar : Nat) (q_draft : Nat) (q_ocean_depths : Nat) (q_ocean_figures : Nat) (q_ocean_times : Nat) (cA : Nat → ClassId) (s_yearOfNow : Int32) (s_ocean_pace : Int32) (s_ocean_fade : Int32) : va_W := [(a0, .inr (11, [.ref q_text, .ref q_ocean, .ref q_trees, .ref q_found, .ref q_images, .ref q_search, .ref q_stories, .ref q_signs, .ref q_calendar, .ref q_draft, .int s_yearOfNow])), (q_ocean, .inr (4, [.ref q_ocean_depths, .ref q_ocean_figures, .ref q_ocean_times, .int s_ocean_pace, .int s_ocean_fade]))]
theorem hn_X11_tune_X11 : ∀ w ∈ u_ws RX11 TX11 11, w ∈ wsX11_tune := by decide +kernel
theorem hn_X11_tune_X4 : ∀ w ∈ u_ws RX4 TX4 5, w ∈ wsX11_tune := by decide +kernel
theorem hw_X11_tune_f19 : Cond.fieldLink RX11 19 "OrphanWave" "ocean" "LOrphanWave$Ocean;" ∈ wsX11_tune := by decide +kernel
theorem hw_X11_tune_f80 : Cond.fieldLink RX11 80 "OrphanWave" "yearOfNow" "I" ∈ wsX11_tune := by decide +kernel

def f_X11_tune_70 (x1 : Int32) (x2 : Int32) (x3 : Int32) (s_yearOfNow : Int32) (s_ocean_pace : Int32) (s_ocean_fade : Int32) : Option ((Int32) × (Int32) × (Int32) × (Int32)) :=
  pbr (x1 = (2 : Int32))
    (pcl (f_X11_isYear x2) (fun r_2 => (
    pbr (r_2 = 0)
      (some (x3, s_yearOfNow, s_ocean_pace, s_ocean_fade))
      (some (s_yearOfNow, x2, s_ocean_pace, s_ocean_fade)))))
    (some (x3, s_yearOfNow, s_ocean_pace, s_ocean_fade))

set_option maxRecDepth 100000 in
set_option maxHeartbeats 4000000 in
theorem k_X11_tune_70 {p : Program} {l : Launch} {e : Env} {s : State} {m : MethodId} {args : Array Value} {below : List Frame} {meth : Method} {c : Code} {A : Nat → Prop} {D : va_G} {cA : Nat → ClassId} (C0 : MX p s m args meth c cX11_tune 4 wsX11_tune RX11 (some .int) D cA) (hA : ∀ q, s.heap.size ≤ q → A q) {a0 : Nat} {q_ocean : Nat} {q_text : Nat} {q_trees : Nat} {q_found : Nat} {q_images : Nat} {q_search : Nat} {q_stories : Nat} {q_signs : Nat} {q_calendar : Nat} {q_draft : Nat} {q_ocean_depths : Nat} {q_ocean_figures : Nat} {q_ocean_times : Nat} {x1 : Int32} {x2 : Int32} {o_r : Int32} {o_yearOfNow : Int32} {o_ocean_pace : Int32} {o_ocean_fade : Int32} : ∀ (x3 : Int32) (s_yearOfNow : Int32) (s_ocean_pace : Int32) (s_ocean_fade : Int32), f_X11_tune_70 x1 x2 x3 s_yearOfNow s_ocean_pace s_ocean_fade = some (o_r, o_yearOfNow, o_ocean_pace, o_ocean_fade) → ∀ (H : Heap) (locs : List Loc), va_P D vwCl (w_X11_tune a0 q_ocean q_text q_trees q_found q_images q_search q_stories q_signs q_calendar q_draft q_ocean_depths q_ocean_figures q_ocean_times cA s_yearOfNow s_ocean_pace s_ocean_fade) H → va_D A (w_X11_tune a0 q_ocean q_text q_trees q_found q_images q_search q_stories q_signs q_calendar q_draft q_ocean_depths q_ocean_figures q_ocean_times cA s_yearOfNow s_ocean_pace s_ocean_fade) → va_S A s.heap H locs → ∀ ls : Array Slot, lv_has ls 4 [(0, .ref a0), (1, .int x1), (2, .int x2), (3, .int x3)] → W p l e rm_X11_tune s m args below meth c H locs 0 0 (MQ below (CQ D (some (.int o_r)) (w_X11_tune a0 q_ocean q_text q_trees q_found q_images q_search q_stories q_signs q_calendar q_draft q_ocean_depths q_ocean_figures q_ocean_times cA o_yearOfNow o_ocean_pace o_ocean_fade) A) args s 0 0 A) (F0 m 70 ls []) := by
  obtain ⟨hx, hb, hml, hown, hts, hr, hlocks, hX⟩ := C0
  have hK := hX.1
  have hN := hX.2
  intro x3 s_yearOfNow s_ocean_pace s_ocean_fade hf H locs hP hD hS ls hl
  unfold f_X11_tune_70 at hf
  refine lv_iload_n hx hb dX11_tune_70 rfl (lv_at hl 1 rfl) ?_
  refine lv_iconst (v := (2 : Int32)) hx hb dX11_tune_71 (by decide) ?_
  refine lv_icmp_ne (tgt := 92) hx hb dX11_tune_72 (by decide) (fun c_1 => ?_) (fun c_1 => ?_)
  · have hf := pbr_f c_1 hf
    refine lv_iload_n hx hb dX11_tune_92 rfl (lv_at hl 3 rfl) ?_
    obtain ⟨rfl, rfl, rfl, rfl⟩ := pe4 hf
    exact m_iret hx hb hr hlocks hP hS dX11_tune_93
  have hf := pbr_t c_1 hf
  refine lv_iload_n hx hb dX11_tune_75 rfl (lv_at hl 2 rfl) ?_
  obtain ⟨r_2, hc_3, hf⟩ := pcl_e hf
  refine m_callS2 (As := [.int x2]) (rest := []) ⟨hx, hb, hml, hown, hts⟩ hX (ct_X11_isYear l D cA x2 r_2 hc_3) (va_cwS 1 hts gX11_tune_X11_isYear rfl rfl rfl (by decide +kernel) ⟨Nat.le_of_ble_eq_true rfl, Nat.le_of_ble_eq_true rfl⟩) hP hD hS hA [] [0, 1] 2 (by decide) rfl rfl (WS' := (w_X11_tune a0 q_ocean q_text q_trees q_found q_images q_search q_stories q_signs q_calendar q_draft q_ocean_depths q_ocean_figures q_ocean_times cA s_yearOfNow s_ocean_pace s_ocean_fade)) (WR := [(a0, .inr (11, [.ref q_text, .ref q_ocean, .ref q_trees, .ref q_found, .ref q_images, .ref q_search, .ref q_stories, .ref q_signs, .ref q_calendar, .ref q_draft, .int s_yearOfNow])), (q_ocean, .inr (4, [.ref q_ocean_depths, .ref q_ocean_figures, .ref q_ocean_times, .int s_ocean_pace, .int s_ocean_fade]))]) rfl rfl rfl rfl (by decide) (by decide) rfl hl.1 rfl (st' := [.int r_2]) rfl (Nat.le_of_ble_eq_true rfl) ⟨Nat.zero_le _, Nat.zero_le _⟩ dX11_tune_76 (fun H locs hP hD hS => ?_)
  refine lv_if_eq (tgt := 92) hx hb dX11_tune_79 (by decide) (fun c_4 => ?_) (fun c_4 => ?_)
  · have hf := pbr_t c_4 hf
    refine lv_iload_n hx hb dX11_tune_92 rfl (lv_at hl 3 rfl) ?_
    obtain ⟨rfl, rfl, rfl, rfl⟩ := pe4 hf
    exact m_iret hx hb hr hlocks hP hS dX11_tune_93
  have hf := pbr_f c_4 hf
  refine lv_aload_n hx hb dX11_tune_82 rfl (lv_at hl 0 rfl) ?_
  refine va_get (D := D) (ci := 11) (v := .int s_yearOfNow) (C := RX11) (T := TX11) (N := 11) hx hb hts hn_X11_tune_X11 hown hK hP 0 rfl rfl 10 (by decide) (hts _ hw_X11_tune_f80) (fun _ h9 => h9) rfl dX11_tune_83 ?_
  refine lv_istore_n (lv' := [(3, .int s_yearOfNow), (0, .ref a0), (1, .int x1), (2, .int x2)]) hx hb dX11_tune_86 rfl hl (by decide) rfl (fun ls hl => ?_)
  refine lv_aload_n hx hb dX11_tune_87 rfl (lv_at hl 1 rfl) ?_
  refine lv_iload_n hx hb dX11_tune_88 rfl (lv_at hl 3 rfl) ?_
  refine va_put (D := D) (ci := 11) (v := .int x2) (ty := .int) (C := RX11) (T := TX11) (N := 11) hx hb hts hn_X11_tune_X11 tyX11 tyX11_ok nmX11 hown hK hP hD hS 0 rfl rfl 10 (by decide) (hts _ hw_X11_tune_f80) (fun _ h9 => h9) rfl (by decide +kernel) rfl rfl (Nat.le_of_ble_eq_true rfl) dX11_tune_89 (fun H locs hP hD hS => ?_)
  have hP : va_P D vwCl (w_X11_tune a0 q_ocean q_text q_trees q_found q_images q_search q_stories q_signs q_calendar q_draft q_ocean_depths q_ocean_figures q_ocean_times cA x2 s_ocean_pace s_ocean_fade) H := hP
  have hD : va_D A (w_X11_tune a0 q_ocean q_text q_trees q_found q_images q_search q_stories q_signs q_calendar q_draft q_ocean_depths q_ocean_figures q_ocean_times cA x2 s_ocean_pace s_ocean_fade) := hD
  refine lv_iload_n hx hb dX11_tune_92 rfl (lv_at hl 0 rfl) ?_
  obtain ⟨rfl, rfl, rfl, rfl⟩ := pe4 hf
  exact m_iret hx hb hr hlocks hP hS dX11_tune_93

def f_X11_tune_35 (x1 : Int32) (x2 : Int32) (x3 : Int32) (s_yearOfNow : Int32) (s_ocean_pace : Int32) (s_ocean_fade : Int32) : Option ((Int32) × (Int32) × (Int32) × (Int32)) :=
  pbr (x1 = (1 : Int32))
    (pcl (f_X11_within x2 (1 : Int32) (999 : Int32)) (fun r_2 => (
    pbr (r_2 = 0)
      (f_X11_tune_70 x1 x2 x3 s_yearOfNow s_ocean_pace s_ocean_fade)
      (some (s_ocean_fade, s_yearOfNow, s_ocean_pace, x2)))))
    (f_X11_tune_70 x1 x2 x3 s_yearOfNow s_ocean_pace s_ocean_fade)

set_option maxRecDepth 100000 in
set_option maxHeartbeats 4000000 in
theorem k_X11_tune_35 {p : Program} {l : Launch} {e : Env} {s : State} {m : MethodId} {args : Array Value} {below : List Frame} {meth : Method} {c : Code} {A : Nat → Prop} {D : va_G} {cA : Nat → ClassId} (C0 : MX p s m args meth c cX11_tune 4 wsX11_tune RX11 (some .int) D cA) (hA : ∀ q, s.heap.size ≤ q → A q) {a0 : Nat} {q_ocean : Nat} {q_text : Nat} {q_trees : Nat} {q_found : Nat} {q_images : Nat} {q_search : Nat} {q_stories : Nat} {q_signs : Nat} {q_calendar : Nat} {q_draft : Nat} {q_ocean_depths : Nat} {q_ocean_figures : Nat} {q_ocean_times : Nat} {x1 : Int32} {x2 : Int32} {o_r : Int32} {o_yearOfNow : Int32} {o_ocean_pace : Int32} {o_ocean_fade : Int32} : ∀ (x3 : Int32) (s_yearOfNow : Int32) (s_ocean_pace : Int32) (s_ocean_fade : Int32), f_X11_tune_35 x1 x2 x3 s_yearOfNow s_ocean_pace s_ocean_fade = some (o_r, o_yearOfNow, o_ocean_pace, o_ocean_fade) → ∀ (H : Heap) (locs : List Loc), va_P D vwCl (w_X11_tune a0 q_ocean q_text q_trees q_found q_images q_search q_stories q_signs q_calendar q_draft q_ocean_depths q_ocean_figures q_ocean_times cA s_yearOfNow s_ocean_pace s_ocean_fade) H → va_D A (w_X11_tune a0 q_ocean q_text q_trees q_found q_images q_search q_stories q_signs q_calendar q_draft q_ocean_depths q_ocean_figures q_ocean_times cA s_yearOfNow s_ocean_pace s_ocean_fade) → va_S A s.heap H locs → ∀ ls : Array Slot, lv_has ls 4 [(0, .ref a0), (1, .int x1), (2, .int x2), (3, .int x3)] → W p l e rm_X11_tune s m args below meth c H locs 0 0 (MQ below (CQ D (some (.int o_r)) (w_X11_tune a0 q_ocean q_text q_trees q_found q_images q_search q_stories q_signs q_calendar q_draft q_ocean_depths q_ocean_figures q_ocean_times cA o_yearOfNow o_ocean_pace o_ocean_fade) A) args s 0 0 A) (F0 m 35 ls []) := by
  obtain ⟨hx, hb, hml, hown, hts, hr, hlocks, hX⟩ := C0
  have hK := hX.1
  have hN := hX.2
  intro x3 s_yearOfNow s_ocean_pace s_ocean_fade hf H locs hP hD hS ls hl
  unfold f_X11_tune_35 at hf
  refine lv_iload_n hx hb dX11_tune_35 rfl (lv_at hl 1 rfl) ?_
  refine lv_iconst (v := (1 : Int32)) hx hb dX11_tune_36 (by decide) ?_
  refine lv_icmp_ne (tgt := 70) hx hb dX11_tune_37 (by decide) (fun c_1 => ?_) (fun c_1 => ?_)
  · have hf := pbr_f c_1 hf
    exact k_X11_tune_70 ⟨hx, hb, hml, hown, hts, hr, hlocks, hX⟩ hA x3 s_yearOfNow s_ocean_pace s_ocean_fade hf _ _ hP hD hS ls (lv_sub hl [0, 1, 2, 3] rfl)
  have hf := pbr_t c_1 hf
  refine lv_iload_n hx hb dX11_tune_40 rfl (lv_at hl 2 rfl) ?_
  refine lv_iconst (v := (1 : Int32)) hx hb dX11_tune_41 (by decide) ?_
  refine lv_sipush (v := (999 : Int32)) hx hb dX11_tune_42 (by decide) ?_
  obtain ⟨r_2, hc_3, hf⟩ := pcl_e hf
  refine m_callS2 (As := [.int x2, .int (1 : Int32), .int (999 : Int32)]) (rest := []) ⟨hx, hb, hml, hown, hts⟩ hX (ct_X11_within l D cA x2 (1 : Int32) (999 : Int32) r_2 hc_3) (va_cwS 3 hts gX11_tune_X11_within rfl rfl rfl (by decide +kernel) ⟨Nat.le_of_ble_eq_true rfl, Nat.le_of_ble_eq_true rfl⟩) hP hD hS hA [] [0, 1] 2 (by decide) rfl rfl (WS' := (w_X11_tune a0 q_ocean q_text q_trees q_found q_images q_search q_stories q_signs q_calendar q_draft q_ocean_depths q_ocean_figures q_ocean_times cA s_yearOfNow s_ocean_pace s_ocean_fade)) (WR := [(a0, .inr (11, [.ref q_text, .ref q_ocean, .ref q_trees, .ref q_found, .ref q_images, .ref q_search, .ref q_stories, .ref q_signs, .ref q_calendar, .ref q_draft, .int s_yearOfNow])), (q_ocean, .inr (4, [.ref q_ocean_depths, .ref q_ocean_figures, .ref q_ocean_times, .int s_ocean_pace, .int s_ocean_fade]))]) rfl rfl rfl rfl (by decide) (by decide) rfl hl.1 rfl (st' := [.int r_2]) rfl (Nat.le_of_ble_eq_true rfl) ⟨Nat.zero_le _, Nat.zero_le _⟩ dX11_tune_45 (fun H locs hP hD hS => ?_)
  refine lv_if_eq (tgt := 70) hx hb dX11_tune_48 (by decide) (fun c_4 => ?_) (fun c_4 => ?_)
  · have hf := pbr_t c_4 hf
    exact k_X11_tune_70 ⟨hx, hb, hml, hown, hts, hr, hlocks, hX⟩ hA x3 s_yearOfNow s_ocean_pace s_ocean_fade hf _ _ hP hD hS ls (lv_sub hl [0, 1, 2, 3] rfl)
  have hf := pbr_f c_4 hf
  refine lv_aload_n hx hb dX11_tune_51 rfl (lv_at hl 0 rfl) ?_
  refine va_get (D := D) (ci := 11) (v := .ref q_ocean) (C := RX11) (T := TX11) (N := 11) hx hb hts hn_X11_tune_X11 hown hK hP 0 rfl rfl 1 (by decide) (hts _ hw_X11_tune_f19) (fun _ h9 => h9) rfl dX11_tune_52 ?_
  refine va_getN (D := D) (ci := 4) (v := .int s_ocean_fade) (C := RX4) (T := TX4) (N := 5) hx hb hts hn_X11_tune_X4 hown hK hP 1 rfl rfl 4 (by decide) (va_Nw.use rfl (hN _ nw_X11_117)) (fun _ h9 => h9) rfl dX11_tune_55 ?_
  refine lv_istore_n (lv' := [(3, .int s_ocean_fade), (0, .ref a0), (1, .int x1), (2, .int x2)]) hx hb dX11_tune_58 rfl hl (by decide) rfl (fun ls hl => ?_)
  refine lv_aload_n hx hb dX11_tune_59 rfl (lv_at hl 1 rfl) ?_
  refine va_get (D := D) (ci := 11) (v := .ref q_ocean) (C := RX11) (T := TX11) (N := 11) hx hb hts hn_X11_tune_X11 hown hK hP 0 rfl rfl 1 (by decide) (hts _ hw_X11_tune_f19) (fun _ h9 => h9) rfl dX11_tune_60 ?_
  refine lv_iload_n hx hb dX11_tune_63 rfl (lv_at hl 3 rfl) ?_
  refine va_putN (D := D) (ci := 4) (v := .int x2) (ty := .int) (C := RX4) (T := TX4) (N := 5) hx hb hts hn_X11_tune_X4 tyX4 tyX4_ok nmX4 hown hK hP hD hS 1 rfl rfl 4 (by decide) (va_Nw.use rfl (hN _ nw_X11_117)) (fun _ h9 => h9) rfl (by decide +kernel) rfl rfl (Nat.le_of_ble_eq_true rfl) dX11_tune_64 (fun H locs hP hD hS => ?_)
  have hP : va_P D vwCl (w_X11_tune a0 q_ocean q_text q_trees q_found q_images q_search q_stories q_signs q_calendar q_draft q_ocean_depths q_ocean_figures q_ocean_times cA s_yearOfNow s_ocean_pace x2) H := hP
  have hD : va_D A (w_X11_tune a0 q_ocean q_text q_trees q_found q_images q_search q_stories q_signs q_calendar q_draft q_ocean_depths q_ocean_figures q_ocean_times cA s_yearOfNow s_ocean_pace x2) := hD
  refine lv_goto (tgt := 92) hx hb dX11_tune_67 (by decide) ?_
  refine lv_iload_n hx hb dX11_tune_92 rfl (lv_at hl 0 rfl) ?_
  obtain ⟨rfl, rfl, rfl, rfl⟩ := pe4 hf
  exact m_iret hx hb hr hlocks hP hS dX11_tune_93

def f_X11_tune (x1 : Int32) (x2 : Int32) (s_yearOfNow : Int32) (s_ocean_pace : Int32) (s_ocean_fade : Int32) : Option ((Int32) × (Int32) × (Int32) × (Int32)) :=
  pbr (x1 = 0)
    (pcl (f_X11_within x2 (1 : Int32) (9 : Int32)) (fun r_2 => (
    pbr (r_2 = 0)
      (f_X11_tune_35 x1 x2 (-1 : Int32) s_yearOfNow s_ocean_pace s_ocean_fade)
      (some (s_ocean_pace, s_yearOfNow, x2, s_ocean_fade)))))
    (f_X11_tune_35 x1 x2 (-1 : Int32) s_yearOfNow s_ocean_pace s_ocean_fade)

set_option maxRecDepth 100000 in
set_option maxHeartbeats 4000000 in
theorem ct_X11_tune (l : Launch) (D : va_G) (cA : Nat → ClassId) (x1 : Int32) (x2 : Int32) (a0 : Nat) (q_ocean : Nat) (q_text : Nat) (q_trees : Nat) (q_found : Nat) (q_images : Nat) (q_search : Nat) (q_stories : Nat) (q_signs : Nat) (q_calendar : Nat) (q_draft : Nat) (q_ocean_depths : Nat) (q_ocean_figures : Nat) (q_ocean_times : Nat) (s_yearOfNow : Int32) (s_ocean_pace : Int32) (s_ocean_fade : Int32) (o_r : Int32) (o_yearOfNow : Int32) (o_ocean_pace : Int32) (o_ocean_fade : Int32) (hf : f_X11_tune x1 x2 s_yearOfNow s_ocean_pace s_ocean_fade = some (o_r, o_yearOfNow, o_ocean_pace, o_ocean_fade)) : CT l yX11_tune wsX11_tune rm_X11_tune D cA [.ref a0, .int x1, .int x2] (w_X11_tune a0 q_ocean q_text q_trees q_found q_images q_search q_stories q_signs q_calendar q_draft q_ocean_depths q_ocean_figures q_ocean_times cA s_yearOfNow s_ocean_pace s_ocean_fade) (w_X11_tune a0 q_ocean q_text q_trees q_found q_images q_search q_stories q_signs q_calendar q_draft q_ocean_depths q_ocean_figures q_ocean_times cA o_yearOfNow o_ocean_pace o_ocean_fade) (some (.int o_r)) := by
  refine CT.ofW (cc := cX11_tune) (maxL := 4) (ret := (some .int)) (by decide +kernel) rfl (Nat.le_of_ble_eq_true rfl) ?_
  intro p e s m below meth c A C0 hA hP hD ls hl
  have C0 : MX p s m [.ref a0, .int x1, .int x2].toArray meth c cX11_tune 4 wsX11_tune RX11 (some .int) D cA := C0
  have hl : lv_has ls 4 [(0, .ref a0), (1, .int x1), (2, .int x2)] := hl
  obtain ⟨hx, hb, hml, hown, hts, hr, hlocks, hX⟩ := id C0
  have hK := hX.1
  have hN := hX.2
  have hS : va_S A s.heap s.heap [] := va_S.rf
  unfold f_X11_tune at hf
  refine lv_iconst (v := (-1 : Int32)) hx hb dX11_tune_0 (by decide) ?_
  refine lv_istore_n (lv' := [(3, .int (-1 : Int32)), (0, .ref a0), (1, .int x1), (2, .int x2)]) hx hb dX11_tune_1 rfl hl (by decide) rfl (fun ls hl => ?_)
  refine lv_iload_n hx hb dX11_tune_2 rfl (lv_at hl 2 rfl) ?_
  refine lv_if_ne (tgt := 35) hx hb dX11_tune_3 (by decide) (fun c_1 => ?_) (fun c_1 => ?_)
  · have hf := pbr_f c_1 hf
    exact k_X11_tune_35 C0 hA (-1 : Int32) s_yearOfNow s_ocean_pace s_ocean_fade hf _ _ hP hD hS ls (lv_sub hl [1, 2, 3, 0] rfl)
  have hf := pbr_t c_1 hf
  refine lv_iload_n hx hb dX11_tune_6 rfl (lv_at hl 3 rfl) ?_
  refine lv_iconst (v := (1 : Int32)) hx hb dX11_tune_7 (by decide) ?_
  refine lv_bipush (v := (9 : Int32)) hx hb dX11_tune_8 (by decide) ?_
  obtain ⟨r_2, hc_3, hf⟩ := pcl_e hf
  refine m_callS2 (As := [.int x2, .int (1 : Int32), .int (9 : Int32)]) (rest := []) ⟨hx, hb, hml, hown, hts⟩ hX (ct_X11_within l D cA x2 (1 : Int32) (9 : Int32) r_2 hc_3) (va_cwS 3 hts gX11_tune_X11_within rfl rfl rfl (by decide +kernel) ⟨Nat.le_of_ble_eq_true rfl, Nat.le_of_ble_eq_true rfl⟩) hP hD hS hA [] [0, 1] 2 (by decide) rfl rfl (WS' := (w_X11_tune a0 q_ocean q_text q_trees q_found q_images q_search q_stories q_signs q_calendar q_draft q_ocean_depths q_ocean_figures q_ocean_times cA s_yearOfNow s_ocean_pace s_ocean_fade)) (WR := [(a0, .inr (11, [.ref q_text, .ref q_ocean, .ref q_trees, .ref q_found, .ref q_images, .ref q_search, .ref q_stories, .ref q_signs, .ref q_calendar, .ref q_draft, .int s_yearOfNow])), (q_ocean, .inr (4, [.ref q_ocean_depths, .ref q_ocean_figures, .ref q_ocean_times, .int s_ocean_pace, .int s_ocean_fade]))]) rfl rfl rfl rfl (by decide) (by decide) rfl hl.1 rfl (st' := [.int r_2]) rfl (Nat.le_of_ble_eq_true rfl) ⟨Nat.zero_le _, Nat.zero_le _⟩ dX11_tune_10 (fun H locs hP hD hS => ?_)
  refine lv_if_eq (tgt := 35) hx hb dX11_tune_13 (by decide) (fun c_4 => ?_) (fun c_4 => ?_)
  · have hf := pbr_t c_4 hf
    exact k_X11_tune_35 C0 hA (-1 : Int32) s_yearOfNow s_ocean_pace s_ocean_fade hf _ _ hP hD hS ls (lv_sub hl [1, 2, 3, 0] rfl)
  have hf := pbr_f c_4 hf
  refine lv_aload_n hx hb dX11_tune_16 rfl (lv_at hl 1 rfl) ?_
  refine va_get (D := D) (ci := 11) (v := .ref q_ocean) (C := RX11) (T := TX11) (N := 11) hx hb hts hn_X11_tune_X11 hown hK hP 0 rfl rfl 1 (by decide) (hts _ hw_X11_tune_f19) (fun _ h9 => h9) rfl dX11_tune_17 ?_
  refine va_getN (D := D) (ci := 4) (v := .int s_ocean_pace) (C := RX4) (T := TX4) (N := 5) hx hb hts hn_X11_tune_X4 hown hK hP 1 rfl rfl 3 (by decide) (va_Nw.use rfl (hN _ nw_X11_114)) (fun _ h9 => h9) rfl dX11_tune_20 ?_
  refine lv_istore_n (lv' := [(3, .int s_ocean_pace), (0, .ref a0), (1, .int x1), (2, .int x2)]) hx hb dX11_tune_23 rfl hl (by decide) rfl (fun ls hl => ?_)
  refine lv_aload_n hx hb dX11_tune_24 rfl (lv_at hl 1 rfl) ?_
  refine va_get (D := D) (ci := 11) (v := .ref q_ocean) (C := RX11) (T := TX11) (N := 11) hx hb hts hn_X11_tune_X11 hown hK hP 0 rfl rfl 1 (by decide) (hts _ hw_X11_tune_f19) (fun _ h9 => h9) rfl dX11_tune_25 ?_
  refine lv_iload_n hx hb dX11_tune_28 rfl (lv_at hl 3 rfl) ?_
  refine va_putN (D := D) (ci := 4) (v := .int x2) (ty := .int) (C := RX4) (T := TX4) (N := 5) hx hb hts hn_X11_tune_X4 tyX4 tyX4_ok nmX4 hown hK hP hD hS 1 rfl rfl 3 (by decide) (va_Nw.use rfl (hN _ nw_X11_114)) (fun _ h9 => h9) rfl (by decide +kernel) rfl rfl (Nat.le_of_ble_eq_true rfl) dX11_tune_29 (fun H locs hP hD hS => ?_)
  have hP : va_P D vwCl (w_X11_tune a0 q_ocean q_text q_trees q_found q_images q_search q_stories q_signs q_calendar q_draft q_ocean_depths q_ocean_figures q_ocean_times cA s_yearOfNow x2 s_ocean_fade) H := hP
  have hD : va_D A (w_X11_tune a0 q_ocean q_text q_trees q_found q_images q_search q_stories q_signs q_calendar q_draft q_ocean_depths q_ocean_figures q_ocean_times cA s_yearOfNow x2 s_ocean_fade) := hD
  refine lv_goto (tgt := 92) hx hb dX11_tune_32 (by decide) ?_
  refine lv_iload_n hx hb dX11_tune_92 rfl (lv_at hl 0 rfl) ?_
  obtain ⟨rfl, rfl, rfl, rfl⟩ := pe4 hf
  exact m_iret hx hb hr hlocks hP hS dX11_tune_93
