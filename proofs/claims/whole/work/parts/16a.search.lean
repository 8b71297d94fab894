/-! ===== OrphanWave$Search.measure()V ===== -/
abbrev rm_X5_measure : Room := { frames := 3, cells := 0, slots := 0, locals := 72 }
abbrev wx_X5_measure (a0 : Nat) (q_books : Nat) (q_books_cells : Nat) (q_ocean : Nat) (q_ocean_depths : Nat) (q_times : Nat) (q_books_froms : Nat) (q_books_tos : Nat) (q_books_lows : Nat) (q_books_highs : Nat) (q_ocean_figures : Nat) (q_ocean_times : Nat) (r_times : Nat → Nat) (cA : Nat → ClassId) (s_books_count : Int32) (s_books_cells : Nat → Int32) (s_ocean_pace : Int32) (s_ocean_fade : Int32) (s_ocean_depths : Nat → Int32) (s_times : Nat → Nat → Int32) : va_W := [(a0, .inr (5, [.ref q_ocean, .ref q_books, .ref q_times])), (q_books, .inr (0, [.ref q_books_cells, .ref q_books_froms, .ref q_books_tos, .ref q_books_lows, .ref q_books_highs, .int s_books_count])), (q_books_cells, .inl (cA 1, 6, .inl s_books_cells)), (q_ocean, .inr (4, [.ref q_ocean_depths, .ref q_ocean_figures, .ref q_ocean_times, .int s_ocean_pace, .int s_ocean_fade])), (q_ocean_depths, .inl (cA 1, 48, .inl s_ocean_depths)), (q_times, .inl (cA 5, 6, .inr (.inr (.inr (.inr (gro 6 r_times))))))]
abbrev w_X5_measure (a0 : Nat) (q_books : Nat) (q_books_cells : Nat) (q_ocean : Nat) (q_ocean_depths : Nat) (q_times : Nat) (q_books_froms : Nat) (q_books_tos : Nat) (q_books_lows : Nat) (q_books_highs : Nat) (q_ocean_figures : Nat) (q_ocean_times : Nat) (r_times : Nat → Nat) (cA : Nat → ClassId) (s_books_count : Int32) (s_books_cells : Nat → Int32) (s_ocean_pace : Int32) (s_ocean_fade : Int32) (s_ocean_depths : Nat → Int32) (s_times : Nat → Nat → Int32) : va_W := [(a0, .inr (5, [.ref q_ocean, .ref q_books, .ref q_times])), (q_books, .inr (0, [.ref q_books_cells, .ref q_books_froms, .ref q_books_tos, .ref q_books_lows, .ref q_books_highs, .int s_books_count])), (q_books_cells, .inl (cA 1, 6, .inl s_books_cells)), (q_ocean, .inr (4, [.ref q_ocean_depths, .ref q_ocean_figures, .ref q_ocean_times, .int s_ocean_pace, .int s_ocean_fade])), (q_ocean_depths, .inl (cA 1, 48, .inl s_ocean_depths)), (q_times, .inl (cA 5, 6, .inr (.inr (.inr (.inr (gro 6 r_times))))))] ++ grw 6 r_times (cA 1) 48 s_times
theorem hn_X5_measure_X5 : ∀ w ∈ u_ws RX5 TX5 3, w ∈ wsX5_measure := by decide +kernel
theorem hn_X5_measure_X0 : ∀ w ∈ u_ws RX0 TX0 6, w ∈ wsX5_measure := by decide +kernel
theorem hw_X5_measure_f20 : Cond.fieldLink RX5 20 "OrphanWave$Search" "books" "LOrphanWave$Books;" ∈ wsX5_measure := by decide +kernel
theorem hw_X5_measure_f16 : Cond.fieldLink RX5 16 "OrphanWave$Search" "ocean" "LOrphanWave$Ocean;" ∈ wsX5_measure := by decide +kernel
theorem hw_X5_measure_f11 : Cond.fieldLink RX5 11 "OrphanWave$Search" "times" "[[I" ∈ wsX5_measure := by decide +kernel

def f_X5_measure_2 (s_books_count : Int32) (s_books_cells : Nat → Int32) (s_ocean_pace : Int32) (s_ocean_depths : Nat → Int32) : Nat → (Int32) → (Nat → Nat → Int32) → Option ((Nat → Nat → Int32))
  | 0, _, _ => none
  | k + 1, x1, s_times =>
    pbr (s_books_count ≤ x1)
      (some (s_times))
      (pgd (pin x1 6) (
      pcl (f_X4_measureTo (s_books_cells x1.toNatClampNeg) s_ocean_pace (s_times x1.toNatClampNeg) s_ocean_depths) (fun b2_3 => (
      plt (upR s_times x1.toNatClampNeg b2_3 : Nat → Nat → Int32) (fun f_5 => (
      plt (x1 + (1 : Int32) : Int32) (fun x1_6 => (
      (f_X5_measure_2 s_books_count s_books_cells s_ocean_pace s_ocean_depths k) x1_6 f_5))))))))

set_option maxRecDepth 100000 in
set_option maxHeartbeats 4000000 in
theorem k_X5_measure_2 {p : Program} {l : Launch} {e : Env} {s : State} {m : MethodId} {args : Array Value} {below : List Frame} {meth : Method} {c : Code} {A : Nat → Prop} {D : va_G} {cA : Nat → ClassId} (C0 : MX p s m args meth c cX5_measure 2 wsX5_measure RX5 none D cA) (hA : ∀ q, s.heap.size ≤ q → A q) {a0 : Nat} {q_books : Nat} {q_books_cells : Nat} {q_ocean : Nat} {q_ocean_depths : Nat} {q_times : Nat} {q_books_froms : Nat} {q_books_tos : Nat} {q_books_lows : Nat} {q_books_highs : Nat} {q_ocean_figures : Nat} {q_ocean_times : Nat} {r_times : Nat → Nat} {s_books_count : Int32} {s_books_cells : Nat → Int32} {s_ocean_pace : Int32} {s_ocean_fade : Int32} {s_ocean_depths : Nat → Int32} {o_times : Nat → Nat → Int32} : ∀ (k : Nat) (x1 : Int32) (s_times : Nat → Nat → Int32), f_X5_measure_2 s_books_count s_books_cells s_ocean_pace s_ocean_depths k x1 s_times = some o_times → ∀ (H : Heap) (locs : List Loc), va_P D vwCl (w_X5_measure a0 q_books q_books_cells q_ocean q_ocean_depths q_times q_books_froms q_books_tos q_books_lows q_books_highs q_ocean_figures q_ocean_times r_times cA s_books_count s_books_cells s_ocean_pace s_ocean_fade s_ocean_depths s_times) H → va_D A (w_X5_measure a0 q_books q_books_cells q_ocean q_ocean_depths q_times q_books_froms q_books_tos q_books_lows q_books_highs q_ocean_figures q_ocean_times r_times cA s_books_count s_books_cells s_ocean_pace s_ocean_fade s_ocean_depths s_times) → va_S A s.heap H locs → ∀ ls : Array Slot, lv_has ls 2 [(0, .ref a0), (1, .int x1)] → W p l e rm_X5_measure s m args below meth c H locs 0 0 (MQ below (CQ D none (w_X5_measure a0 q_books q_books_cells q_ocean q_ocean_depths q_times q_books_froms q_books_tos q_books_lows q_books_highs q_ocean_figures q_ocean_times r_times cA s_books_count s_books_cells s_ocean_pace s_ocean_fade s_ocean_depths o_times) A) args s 0 0 A) (F0 m 2 ls []) := by
  obtain ⟨hx, hb, hml, hown, hts, hr, hlocks, hX⟩ := C0
  have hK := hX.1
  have hN := hX.2
  intro k
  induction k with
  | zero =>
    intro x1 s_times hf
    cases hf
  | succ k ih =>
    intro x1 s_times hf H locs hP hD hS ls hl
    rw [f_X5_measure_2] at hf
    refine lv_iload_n hx hb dX5_measure_2 rfl (lv_at hl 1 rfl) ?_
    refine lv_aload_n hx hb dX5_measure_3 rfl (lv_at hl 0 rfl) ?_
    refine va_get (D := D) (ci := 5) (v := .ref q_books) (C := RX5) (T := TX5) (N := 3) hx hb hts hn_X5_measure_X5 hown hK hP 0 rfl rfl 1 (by decide) (hts _ hw_X5_measure_f20) (fun _ h9 => h9) rfl dX5_measure_4 ?_
    refine va_getN (D := D) (ci := 0) (v := .int s_books_count) (C := RX0) (T := TX0) (N := 6) hx hb hts hn_X5_measure_X0 hown hK hP 1 rfl rfl 5 (by decide) (va_Nw.use rfl (hN _ nw_X5_24)) (fun _ h9 => h9) rfl dX5_measure_7 ?_
    refine lv_icmp_ge (tgt := 41) hx hb dX5_measure_10 (by decide) (fun c_1 => ?_) (fun c_1 => ?_)
    · have hf := pbr_t c_1 hf
      obtain rfl := pe1 hf
      exact m_vret hx hb hr hlocks hP hS dX5_measure_41
    have hf := pbr_f c_1 hf
    refine lv_aload_n hx hb dX5_measure_13 rfl (lv_at hl 0 rfl) ?_
    refine va_get (D := D) (ci := 5) (v := .ref q_ocean) (C := RX5) (T := TX5) (N := 3) hx hb hts hn_X5_measure_X5 hown hK hP 0 rfl rfl 0 (by decide) (hts _ hw_X5_measure_f16) (fun _ h9 => h9) rfl dX5_measure_14 ?_
    refine lv_aload_n hx hb dX5_measure_17 rfl (lv_at hl 0 rfl) ?_
    refine va_get (D := D) (ci := 5) (v := .ref q_books) (C := RX5) (T := TX5) (N := 3) hx hb hts hn_X5_measure_X5 hown hK hP 0 rfl rfl 1 (by decide) (hts _ hw_X5_measure_f20) (fun _ h9 => h9) rfl dX5_measure_18 ?_
    refine va_getN (D := D) (ci := 0) (v := .ref q_books_cells) (C := RX0) (T := TX0) (N := 6) hx hb hts hn_X5_measure_X0 hown hK hP 1 rfl rfl 0 (by decide) (va_Nw.use rfl (hN _ nw_X5_30)) (fun _ h9 => h9) rfl dX5_measure_21 ?_
    refine lv_iload_n hx hb dX5_measure_24 rfl (lv_at hl 1 rfl) ?_
    obtain ⟨g_2, hf⟩ := pgd_e hf
    refine va_iald hx hb hK hP 2 1 rfl rfl g_2 dX5_measure_25 ?_
    refine lv_aload_n hx hb dX5_measure_26 rfl (lv_at hl 0 rfl) ?_
    refine va_get (D := D) (ci := 5) (v := .ref q_times) (C := RX5) (T := TX5) (N := 3) hx hb hts hn_X5_measure_X5 hown hK hP 0 rfl rfl 2 (by decide) (hts _ hw_X5_measure_f11) (fun _ h9 => h9) rfl dX5_measure_27 ?_
    refine lv_iload_n hx hb dX5_measure_30 rfl (lv_at hl 1 rfl) ?_
    refine m_aald hx hb hK hP 5 rfl g_2 dX5_measure_31 ?_
    obtain ⟨b2_3, hc_4, hf⟩ := pcl_e hf
    refine m_callV (As := [.int (s_books_cells x1.toNatClampNeg), .ref (r_times x1.toNatClampNeg)]) (rest := []) ⟨hx, hb, hml, hown, hts⟩ hX (ct_X4_measureTo l D cA (s_books_cells x1.toNatClampNeg) q_ocean (r_times x1.toNatClampNeg) q_ocean_depths q_ocean_figures q_ocean_times s_ocean_pace s_ocean_fade (s_times x1.toNatClampNeg) s_ocean_depths b2_3 hc_4) (cwV 2 hts gX5_measure_X4_measureTo rfl rfl rfl (by decide +kernel) ⟨Nat.le_of_ble_eq_true rfl, Nat.le_of_ble_eq_true rfl⟩) hP hD hS hA [3, 6 + x1.toNatClampNeg, 4] (by simp [va_nd]; omega) (pick3 rfl (grw_get (X := (wx_X5_measure a0 q_books q_books_cells q_ocean q_ocean_depths q_times q_books_froms q_books_tos q_books_lows q_books_highs q_ocean_figures q_ocean_times r_times cA s_books_count s_books_cells s_ocean_pace s_ocean_fade s_ocean_depths s_times)) (Nat.not_le.mp fun q => g_2 (Or.inr q))) rfl) rfl (WS' := (w_X5_measure a0 q_books q_books_cells q_ocean q_ocean_depths q_times q_books_froms q_books_tos q_books_lows q_books_highs q_ocean_figures q_ocean_times r_times cA s_books_count s_books_cells s_ocean_pace s_ocean_fade s_ocean_depths (upR s_times x1.toNatClampNeg b2_3))) ((put3 rfl rfl (by omega) (by omega)).trans (grw_setR (X := (wx_X5_measure a0 q_books q_books_cells q_ocean q_ocean_depths q_times q_books_froms q_books_tos q_books_lows q_books_highs q_ocean_figures q_ocean_times r_times cA s_books_count s_books_cells s_ocean_pace s_ocean_fade s_ocean_depths s_times)) _ (Nat.not_le.mp fun q => g_2 (Or.inr q)))) 3 4 rfl rfl rfl hl.1 rfl (st' := []) rfl (Nat.le_of_ble_eq_true rfl) ⟨Nat.zero_le _, Nat.zero_le _⟩ dX5_measure_32 (fun H locs hP hD hS => ?_)
    obtain ⟨f_5, ef_5⟩ : ∃ z : Nat → Nat → Int32, z = upR s_times x1.toNatClampNeg b2_3 := ⟨_, rfl⟩
    have hf := plt_e ef_5 hf
    have hP : va_P D vwCl (w_X5_measure a0 q_books q_books_cells q_ocean q_ocean_depths q_times q_books_froms q_books_tos q_books_lows q_books_highs q_ocean_figures q_ocean_times r_times cA s_books_count s_books_cells s_ocean_pace s_ocean_fade s_ocean_depths f_5) H := by rw [ef_5]; exact hP
    have hD : va_D A (w_X5_measure a0 q_books q_books_cells q_ocean q_ocean_depths q_times q_books_froms q_books_tos q_books_lows q_books_highs q_ocean_figures q_ocean_times r_times cA s_books_count s_books_cells s_ocean_pace s_ocean_fade s_ocean_depths f_5) := by rw [ef_5]; exact hD
    obtain ⟨x1_6, ex1_6⟩ : ∃ z : Int32, z = x1 + (1 : Int32) := ⟨_, rfl⟩
    have hf := plt_e ex1_6 hf
    refine lv_iinc (v := x1_6) (lv' := [(1, .int x1_6), (0, .ref a0)]) hx hb dX5_measure_35 hl (k := 1) rfl (by rw [ex1_6]; rfl) (by decide) rfl (fun ls hl => ?_)
    refine lv_goto (tgt := 2) hx hb dX5_measure_38 (by decide) ?_
    exact ih x1_6 f_5 hf _ _ hP hD hS ls (lv_sub hl [1, 0] rfl)

def f_X5_measure (s_books_count : Int32) (s_books_cells : Nat → Int32) (s_ocean_pace : Int32) (s_ocean_depths : Nat → Int32) (s_times : Nat → Nat → Int32) : Option ((Nat → Nat → Int32)) :=
  f_X5_measure_2 s_books_count s_books_cells s_ocean_pace s_ocean_depths FU (0 : Int32) s_times

set_option maxRecDepth 100000 in
set_option maxHeartbeats 4000000 in
theorem ct_X5_measure (l : Launch) (D : va_G) (cA : Nat → ClassId) (a0 : Nat) (q_books : Nat) (q_books_cells : Nat) (q_ocean : Nat) (q_ocean_depths : Nat) (q_times : Nat) (q_books_froms : Nat) (q_books_tos : Nat) (q_books_lows : Nat) (q_books_highs : Nat) (q_ocean_figures : Nat) (q_ocean_times : Nat) (r_times : Nat → Nat) (s_books_count : Int32) (s_books_cells : Nat → Int32) (s_ocean_pace : Int32) (s_ocean_fade : Int32) (s_ocean_depths : Nat → Int32) (s_times : Nat → Nat → Int32) (o_times : Nat → Nat → Int32) (hf : f_X5_measure s_books_count s_books_cells s_ocean_pace s_ocean_depths s_times = some o_times) : CT l yX5_measure wsX5_measure rm_X5_measure D cA [.ref a0] (w_X5_measure a0 q_books q_books_cells q_ocean q_ocean_depths q_times q_books_froms q_books_tos q_books_lows q_books_highs q_ocean_figures q_ocean_times r_times cA s_books_count s_books_cells s_ocean_pace s_ocean_fade s_ocean_depths s_times) (w_X5_measure a0 q_books q_books_cells q_ocean q_ocean_depths q_times q_books_froms q_books_tos q_books_lows q_books_highs q_ocean_figures q_ocean_times r_times cA s_books_count s_books_cells s_ocean_pace s_ocean_fade s_ocean_depths o_times) none := by
  refine CT.ofW (cc := cX5_measure) (maxL := 2) (ret := none) (by decide +kernel) rfl (Nat.le_of_ble_eq_true rfl) ?_
  intro p e s m below meth c A C0 hA hP hD ls hl
  have C0 : MX p s m [.ref a0].toArray meth c cX5_measure 2 wsX5_measure RX5 none D cA := C0
  have hl : lv_has ls 2 [(0, .ref a0)] := hl
  obtain ⟨hx, hb, hml, hown, hts, hr, hlocks, hX⟩ := id C0
  have hK := hX.1
  have hN := hX.2
  have hS : va_S A s.heap s.heap [] := va_S.rf
  unfold f_X5_measure at hf
  refine lv_iconst (v := (0 : Int32)) hx hb dX5_measure_0 (by decide) ?_
  refine lv_istore_n (lv' := [(1, .int (0 : Int32)), (0, .ref a0)]) hx hb dX5_measure_1 rfl hl (by decide) rfl (fun ls hl => ?_)
  exact k_X5_measure_2 C0 hA FU (0 : Int32) s_times hf _ _ hP hD hS ls (lv_sub hl [1, 0] rfl)

/-! ===== OrphanWave$Search.earliestBegin(I)I ===== -/
abbrev rm_X5_earliestBegin : Room := { frames := 1, cells := 0, slots := 0, locals := 13 }
abbrev wx_X5_earliestBegin (a0 : Nat) (q_books : Nat) (q_books_froms : Nat) (q_times : Nat) (q_ocean : Nat) (q_books_cells : Nat) (q_books_tos : Nat) (q_books_lows : Nat) (q_books_highs : Nat) (r_times : Nat → Nat) (cA : Nat → ClassId) (s_books_count : Int32) (s_books_froms : Nat → Int32) (s_times : Nat → Nat → Int32) : va_W := [(a0, .inr (5, [.ref q_ocean, .ref q_books, .ref q_times])), (q_books, .inr (0, [.ref q_books_cells, .ref q_books_froms, .ref q_books_tos, .ref q_books_lows, .ref q_books_highs, .int s_books_count])), (q_books_froms, .inl (cA 1, 6, .inl s_books_froms)), (q_times, .inl (cA 5, 6, .inr (.inr (.inr (.inr (gro 6 r_times))))))]
abbrev w_X5_earliestBegin (a0 : Nat) (q_books : Nat) (q_books_froms : Nat) (q_times : Nat) (q_ocean : Nat) (q_books_cells : Nat) (q_books_tos : Nat) (q_books_lows : Nat) (q_books_highs : Nat) (r_times : Nat → Nat) (cA : Nat → ClassId) (s_books_count : Int32) (s_books_froms : Nat → Int32) (s_times : Nat → Nat → Int32) : va_W := [(a0, .inr (5, [.ref q_ocean, .ref q_books, .ref q_times])), (q_books, .inr (0, [.ref q_books_cells, .ref q_books_froms, .ref q_books_tos, .ref q_books_lows, .ref q_books_highs, .int s_books_count])), (q_books_froms, .inl (cA 1, 6, .inl s_books_froms)), (q_times, .inl (cA 5, 6, .inr (.inr (.inr (.inr (gro 6 r_times))))))] ++ grw 6 r_times (cA 1) 48 s_times
theorem hn_X5_earliestBegin_X5 : ∀ w ∈ u_ws RX5 TX5 3, w ∈ wsX5_earliestBegin := by decide +kernel
theorem hn_X5_earliestBegin_X0 : ∀ w ∈ u_ws RX0 TX0 6, w ∈ wsX5_earliestBegin := by decide +kernel
theorem hw_X5_earliestBegin_f20 : Cond.fieldLink RX5 20 "OrphanWave$Search" "books" "LOrphanWave$Books;" ∈ wsX5_earliestBegin := by decide +kernel
theorem hw_X5_earliestBegin_f11 : Cond.fieldLink RX5 11 "OrphanWave$Search" "times" "[[I" ∈ wsX5_earliestBegin := by decide +kernel
theorem hw_X5_earliestBegin_m43 : Cond.methodLink RX5 43 Lib.Math.max.name ∈ wsX5_earliestBegin := by decide +kernel
theorem hw_X5_earliestBegin_smax : Cond.static Lib.Math.max.name ∈ wsX5_earliestBegin := by decide +kernel
theorem hw_X5_earliestBegin_imath : Cond.initialized "java/lang/Math" ∈ wsX5_earliestBegin := by decide +kernel
theorem hw_X5_earliestBegin_kmax : Cond.code Lib.Math.max.name Lib.Math.max.code 2 (some .int) ∈ wsX5_earliestBegin := by decide +kernel

def f_X5_earliestBegin_21 (s_books_count : Int32) (s_books_froms : Nat → Int32) (s_times : Nat → Nat → Int32) (x1 : Int32) : Nat → (Int32) → (Int32) → Option ((Int32))
  | 0, _, _ => none
  | k + 1, x2, x3 =>
    pbr (s_books_count ≤ x3)
      (some (x2))
      (pgd (pin x3 6) (
      pgd (pin x1 48) (
      plt ((if x2 < ((s_books_froms x3.toNatClampNeg) - (s_times x3.toNatClampNeg x1.toNatClampNeg)) then ((s_books_froms x3.toNatClampNeg) - (s_times x3.toNatClampNeg x1.toNatClampNeg)) else x2) : Int32) (fun x2_4 => (
      plt (x3 + (1 : Int32) : Int32) (fun x3_5 => (
      (f_X5_earliestBegin_21 s_books_count s_books_froms s_times x1 k) x2_4 x3_5)))))))

set_option maxRecDepth 100000 in
set_option maxHeartbeats 4000000 in
theorem k_X5_earliestBegin_21 {p : Program} {l : Launch} {e : Env} {s : State} {m : MethodId} {args : Array Value} {below : List Frame} {meth : Method} {c : Code} {A : Nat → Prop} {D : va_G} {cA : Nat → ClassId} (C0 : MX p s m args meth c cX5_earliestBegin 4 wsX5_earliestBegin RX5 (some .int) D cA) (hA : ∀ q, s.heap.size ≤ q → A q) {a0 : Nat} {q_books : Nat} {q_books_froms : Nat} {q_times : Nat} {q_ocean : Nat} {q_books_cells : Nat} {q_books_tos : Nat} {q_books_lows : Nat} {q_books_highs : Nat} {r_times : Nat → Nat} {s_books_count : Int32} {s_books_froms : Nat → Int32} {s_times : Nat → Nat → Int32} {x1 : Int32} {o_r : Int32} : ∀ (k : Nat) (x2 : Int32) (x3 : Int32), f_X5_earliestBegin_21 s_books_count s_books_froms s_times x1 k x2 x3 = some o_r → ∀ (H : Heap) (locs : List Loc), va_P D vwCl (w_X5_earliestBegin a0 q_books q_books_froms q_times q_ocean q_books_cells q_books_tos q_books_lows q_books_highs r_times cA s_books_count s_books_froms s_times) H → va_D A (w_X5_earliestBegin a0 q_books q_books_froms q_times q_ocean q_books_cells q_books_tos q_books_lows q_books_highs r_times cA s_books_count s_books_froms s_times) → va_S A s.heap H locs → ∀ ls : Array Slot, lv_has ls 4 [(0, .ref a0), (1, .int x1), (2, .int x2), (3, .int x3)] → W p l e rm_X5_earliestBegin s m args below meth c H locs 0 0 (MQ below (CQ D (some (.int o_r)) (w_X5_earliestBegin a0 q_books q_books_froms q_times q_ocean q_books_cells q_books_tos q_books_lows q_books_highs r_times cA s_books_count s_books_froms s_times) A) args s 0 0 A) (F0 m 21 ls []) := by
  obtain ⟨hx, hb, hml, hown, hts, hr, hlocks, hX⟩ := C0
  have hK := hX.1
  have hN := hX.2
  intro k
  induction k with
  | zero =>
    intro x2 x3 hf
    cases hf
  | succ k ih =>
    intro x2 x3 hf H locs hP hD hS ls hl
    rw [f_X5_earliestBegin_21] at hf
    refine lv_iload_n hx hb dX5_earliestBegin_21 rfl (lv_at hl 3 rfl) ?_
    refine lv_aload_n hx hb dX5_earliestBegin_22 rfl (lv_at hl 0 rfl) ?_
    refine va_get (D := D) (ci := 5) (v := .ref q_books) (C := RX5) (T := TX5) (N := 3) hx hb hts hn_X5_earliestBegin_X5 hown hK hP 0 rfl rfl 1 (by decide) (hts _ hw_X5_earliestBegin_f20) (fun _ h9 => h9) rfl dX5_earliestBegin_23 ?_
    refine va_getN (D := D) (ci := 0) (v := .int s_books_count) (C := RX0) (T := TX0) (N := 6) hx hb hts hn_X5_earliestBegin_X0 hown hK hP 1 rfl rfl 5 (by decide) (va_Nw.use rfl (hN _ nw_X5_24)) (fun _ h9 => h9) rfl dX5_earliestBegin_26 ?_
    refine lv_icmp_ge (tgt := 61) hx hb dX5_earliestBegin_29 (by decide) (fun c_1 => ?_) (fun c_1 => ?_)
    · have hf := pbr_t c_1 hf
      refine lv_iload_n hx hb dX5_earliestBegin_61 rfl (lv_at hl 2 rfl) ?_
      obtain rfl := pe1 hf
      exact m_iret hx hb hr hlocks hP hS dX5_earliestBegin_62
    have hf := pbr_f c_1 hf
    refine lv_iload_n hx hb dX5_earliestBegin_32 rfl (lv_at hl 2 rfl) ?_
    refine lv_aload_n hx hb dX5_earliestBegin_33 rfl (lv_at hl 0 rfl) ?_
    refine va_get (D := D) (ci := 5) (v := .ref q_books) (C := RX5) (T := TX5) (N := 3) hx hb hts hn_X5_earliestBegin_X5 hown hK hP 0 rfl rfl 1 (by decide) (hts _ hw_X5_earliestBegin_f20) (fun _ h9 => h9) rfl dX5_earliestBegin_34 ?_
    refine va_getN (D := D) (ci := 0) (v := .ref q_books_froms) (C := RX0) (T := TX0) (N := 6) hx hb hts hn_X5_earliestBegin_X0 hown hK hP 1 rfl rfl 1 (by decide) (va_Nw.use rfl (hN _ nw_X5_40)) (fun _ h9 => h9) rfl dX5_earliestBegin_37 ?_
    refine lv_iload_n hx hb dX5_earliestBegin_40 rfl (lv_at hl 3 rfl) ?_
    obtain ⟨g_2, hf⟩ := pgd_e hf
    refine va_iald hx hb hK hP 2 1 rfl rfl g_2 dX5_earliestBegin_41 ?_
    refine lv_aload_n hx hb dX5_earliestBegin_42 rfl (lv_at hl 0 rfl) ?_
    refine va_get (D := D) (ci := 5) (v := .ref q_times) (C := RX5) (T := TX5) (N := 3) hx hb hts hn_X5_earliestBegin_X5 hown hK hP 0 rfl rfl 2 (by decide) (hts _ hw_X5_earliestBegin_f11) (fun _ h9 => h9) rfl dX5_earliestBegin_43 ?_
    refine lv_iload_n hx hb dX5_earliestBegin_46 rfl (lv_at hl 3 rfl) ?_
    refine m_aald hx hb hK hP 3 rfl g_2 dX5_earliestBegin_47 ?_
    refine lv_iload_n hx hb dX5_earliestBegin_48 rfl (lv_at hl 1 rfl) ?_
    obtain ⟨g_3, hf⟩ := pgd_e hf
    refine m_rald (i := x3) hx hb hK hP rfl g_2 g_3 dX5_earliestBegin_49 ?_
    refine lv_isub hx hb dX5_earliestBegin_50 ?_
    refine va_mmax hx hb (hml.trans hl.1.symm) hown (hts _ hw_X5_earliestBegin_m43) (hts _ hw_X5_earliestBegin_smax) (hts _ hw_X5_earliestBegin_imath) (hts _ hw_X5_earliestBegin_kmax) (Nat.le_of_ble_eq_true rfl) (Nat.le_of_ble_eq_true rfl) (Nat.zero_le _) (Nat.zero_le _) dX5_earliestBegin_51 ?_
    refine lv_topi (fun x2_4 ex2_4 => ?_)
    have hf := plt_e ex2_4 hf
    refine lv_istore_n (lv' := [(2, .int x2_4), (0, .ref a0), (1, .int x1), (3, .int x3)]) hx hb dX5_earliestBegin_54 rfl hl (by decide) rfl (fun ls hl => ?_)
    obtain ⟨x3_5, ex3_5⟩ : ∃ z : Int32, z = x3 + (1 : Int32) := ⟨_, rfl⟩
    have hf := plt_e ex3_5 hf
    refine lv_iinc (v := x3_5) (lv' := [(3, .int x3_5), (2, .int x2_4), (0, .ref a0), (1, .int x1)]) hx hb dX5_earliestBegin_55 hl (k := 3) rfl (by rw [ex3_5]; rfl) (by decide) rfl (fun ls hl => ?_)
    refine lv_goto (tgt := 21) hx hb dX5_earliestBegin_58 (by decide) ?_
    exact ih x2_4 x3_5 hf _ _ hP hD hS ls (lv_sub hl [2, 3, 1, 0] rfl)

def f_X5_earliestBegin (x1 : Int32) (s_books_count : Int32) (s_books_froms : Nat → Int32) (s_times : Nat → Nat → Int32) : Option ((Int32)) :=
  pgd (pin x1 48) (
  plt (((s_books_froms (0 : Int32).toNatClampNeg) - (s_times (0 : Int32).toNatClampNeg x1.toNatClampNeg)) : Int32) (fun x2_2 => (
  f_X5_earliestBegin_21 s_books_count s_books_froms s_times x1 FU x2_2 (1 : Int32))))

set_option maxRecDepth 100000 in
set_option maxHeartbeats 4000000 in
theorem ct_X5_earliestBegin (l : Launch) (D : va_G) (cA : Nat → ClassId) (x1 : Int32) (a0 : Nat) (q_books : Nat) (q_books_froms : Nat) (q_times : Nat) (q_ocean : Nat) (q_books_cells : Nat) (q_books_tos : Nat) (q_books_lows : Nat) (q_books_highs : Nat) (r_times : Nat → Nat) (s_books_count : Int32) (s_books_froms : Nat → Int32) (s_times : Nat → Nat → Int32) (o_r : Int32) (hf : f_X5_earliestBegin x1 s_books_count s_books_froms s_times = some o_r) : CT l yX5_earliestBegin wsX5_earliestBegin rm_X5_earliestBegin D cA [.ref a0, .int x1] (w_X5_earliestBegin a0 q_books q_books_froms q_times q_ocean q_books_cells q_books_tos q_books_lows q_books_highs r_times cA s_books_count s_books_froms s_times) (w_X5_earliestBegin a0 q_books q_books_froms q_times q_ocean q_books_cells q_books_tos q_books_lows q_books_highs r_times cA s_books_count s_books_froms s_times) (some (.int o_r)) := by
  refine CT.ofW (cc := cX5_earliestBegin) (maxL := 4) (ret := (some .int)) (by decide +kernel) rfl (Nat.le_of_ble_eq_true rfl) ?_
  intro p e s m below meth c A C0 hA hP hD ls hl
  have C0 : MX p s m [.ref a0, .int x1].toArray meth c cX5_earliestBegin 4 wsX5_earliestBegin RX5 (some .int) D cA := C0
  have hl : lv_has ls 4 [(0, .ref a0), (1, .int x1)] := hl
  obtain ⟨hx, hb, hml, hown, hts, hr, hlocks, hX⟩ := id C0
  have hK := hX.1
  have hN := hX.2
  have hS : va_S A s.heap s.heap [] := va_S.rf
  unfold f_X5_earliestBegin at hf
  refine lv_aload_n hx hb dX5_earliestBegin_0 rfl (lv_at hl 0 rfl) ?_
  refine va_get (D := D) (ci := 5) (v := .ref q_books) (C := RX5) (T := TX5) (N := 3) hx hb hts hn_X5_earliestBegin_X5 hown hK hP 0 rfl rfl 1 (by decide) (hts _ hw_X5_earliestBegin_f20) (fun _ h9 => h9) rfl dX5_earliestBegin_1 ?_
  refine va_getN (D := D) (ci := 0) (v := .ref q_books_froms) (C := RX0) (T := TX0) (N := 6) hx hb hts hn_X5_earliestBegin_X0 hown hK hP 1 rfl rfl 1 (by decide) (va_Nw.use rfl (hN _ nw_X5_40)) (fun _ h9 => h9) rfl dX5_earliestBegin_4 ?_
  refine lv_iconst (v := (0 : Int32)) hx hb dX5_earliestBegin_7 (by decide) ?_
  refine va_iald hx hb hK hP 2 1 rfl rfl (show pin (0 : Int32) 6 by decide +kernel) dX5_earliestBegin_8 ?_
  refine lv_aload_n hx hb dX5_earliestBegin_9 rfl (lv_at hl 0 rfl) ?_
  refine va_get (D := D) (ci := 5) (v := .ref q_times) (C := RX5) (T := TX5) (N := 3) hx hb hts hn_X5_earliestBegin_X5 hown hK hP 0 rfl rfl 2 (by decide) (hts _ hw_X5_earliestBegin_f11) (fun _ h9 => h9) rfl dX5_earliestBegin_10 ?_
  refine lv_iconst (v := (0 : Int32)) hx hb dX5_earliestBegin_13 (by decide) ?_
  refine m_aald hx hb hK hP 3 rfl (show pin (0 : Int32) 6 by decide +kernel) dX5_earliestBegin_14 ?_
  refine lv_iload_n hx hb dX5_earliestBegin_15 rfl (lv_at hl 1 rfl) ?_
  obtain ⟨g_1, hf⟩ := pgd_e hf
  refine m_rald (i := (0 : Int32)) hx hb hK hP rfl (show pin (0 : Int32) 6 by decide +kernel) g_1 dX5_earliestBegin_16 ?_
  refine lv_isub hx hb dX5_earliestBegin_17 ?_
  refine lv_topi (fun x2_2 ex2_2 => ?_)
  have hf := plt_e ex2_2 hf
  refine lv_istore_n (lv' := [(2, .int x2_2), (0, .ref a0), (1, .int x1)]) hx hb dX5_earliestBegin_18 rfl hl (by decide) rfl (fun ls hl => ?_)
  refine lv_iconst (v := (1 : Int32)) hx hb dX5_earliestBegin_19 (by decide) ?_
  refine lv_istore_n (lv' := [(3, .int (1 : Int32)), (2, .int x2_2), (0, .ref a0), (1, .int x1)]) hx hb dX5_earliestBegin_20 rfl hl (by decide) rfl (fun ls hl => ?_)
  exact k_X5_earliestBegin_21 C0 hA FU x2_2 (1 : Int32) hf _ _ hP hD hS ls (lv_sub hl [2, 3, 1, 0] rfl)

/-! ===== OrphanWave$Search.latestBegin(I)I ===== -/
abbrev rm_X5_latestBegin : Room := { frames := 1, cells := 0, slots := 0, locals := 13 }
abbrev wx_X5_latestBegin (a0 : Nat) (q_books : Nat) (q_books_tos : Nat) (q_times : Nat) (q_ocean : Nat) (q_books_cells : Nat) (q_books_froms : Nat) (q_books_lows : Nat) (q_books_highs : Nat) (r_times : Nat → Nat) (cA : Nat → ClassId) (s_books_count : Int32) (s_books_tos : Nat → Int32) (s_times : Nat → Nat → Int32) : va_W := [(a0, .inr (5, [.ref q_ocean, .ref q_books, .ref q_times])), (q_books, .inr (0, [.ref q_books_cells, .ref q_books_froms, .ref q_books_tos, .ref q_books_lows, .ref q_books_highs, .int s_books_count])), (q_books_tos, .inl (cA 1, 6, .inl s_books_tos)), (q_times, .inl (cA 5, 6, .inr (.inr (.inr (.inr (gro 6 r_times))))))]
abbrev w_X5_latestBegin (a0 : Nat) (q_books : Nat) (q_books_tos : Nat) (q_times : Nat) (q_ocean : Nat) (q_books_cells : Nat) (q_books_froms : Nat) (q_books_lows : Nat) (q_books_highs : Nat) (r_times : Nat → Nat) (cA : Nat → ClassId) (s_books_count : Int32) (s_books_tos : Nat → Int32) (s_times : Nat → Nat → Int32) : va_W := [(a0, .inr (5, [.ref q_ocean, .ref q_books, .ref q_times])), (q_books, .inr (0, [.ref q_books_cells, .ref q_books_froms, .ref q_books_tos, .ref q_books_lows, .ref q_books_highs, .int s_books_count])), (q_books_tos, .inl (cA 1, 6, .inl s_books_tos)), (q_times, .inl (cA 5, 6, .inr (.inr (.inr (.inr (gro 6 r_times))))))] ++ grw 6 r_times (cA 1) 48 s_times
theorem hn_X5_latestBegin_X5 : ∀ w ∈ u_ws RX5 TX5 3, w ∈ wsX5_latestBegin := by decide +kernel
theorem hn_X5_latestBegin_X0 : ∀ w ∈ u_ws RX0 TX0 6, w ∈ wsX5_latestBegin := by decide +kernel
theorem hw_X5_latestBegin_f20 : Cond.fieldLink RX5 20 "OrphanWave$Search" "books" "LOrphanWave$Books;" ∈ wsX5_latestBegin := by decide +kernel
theorem hw_X5_latestBegin_f11 : Cond.fieldLink RX5 11 "OrphanWave$Search" "times" "[[I" ∈ wsX5_latestBegin := by decide +kernel
theorem hw_X5_latestBegin_m52 : Cond.methodLink RX5 52 Lib.Math.min.name ∈ wsX5_latestBegin := by decide +kernel
theorem hw_X5_latestBegin_smin : Cond.static Lib.Math.min.name ∈ wsX5_latestBegin := by decide +kernel
theorem hw_X5_latestBegin_imath : Cond.initialized "java/lang/Math" ∈ wsX5_latestBegin := by decide +kernel
theorem hw_X5_latestBegin_kmin : Cond.code Lib.Math.min.name Lib.Math.min.code 2 (some .int) ∈ wsX5_latestBegin := by decide +kernel

def f_X5_latestBegin_21 (s_books_count : Int32) (s_books_tos : Nat → Int32) (s_times : Nat → Nat → Int32) (x1 : Int32) : Nat → (Int32) → (Int32) → Option ((Int32))
  | 0, _, _ => none
  | k + 1, x2, x3 =>
    pbr (s_books_count ≤ x3)
      (some (x2))
      (pgd (pin x3 6) (
      pgd (pin x1 48) (
      plt ((if ((s_books_tos x3.toNatClampNeg) - (s_times x3.toNatClampNeg x1.toNatClampNeg)) < x2 then ((s_books_tos x3.toNatClampNeg) - (s_times x3.toNatClampNeg x1.toNatClampNeg)) else x2) : Int32) (fun x2_4 => (
      plt (x3 + (1 : Int32) : Int32) (fun x3_5 => (
      (f_X5_latestBegin_21 s_books_count s_books_tos s_times x1 k) x2_4 x3_5)))))))

set_option maxRecDepth 100000 in
set_option maxHeartbeats 4000000 in
theorem k_X5_latestBegin_21 {p : Program} {l : Launch} {e : Env} {s : State} {m : MethodId} {args : Array Value} {below : List Frame} {meth : Method} {c : Code} {A : Nat → Prop} {D : va_G} {cA : Nat → ClassId} (C0 : MX p s m args meth c cX5_latestBegin 4 wsX5_latestBegin RX5 (some .int) D cA) (hA : ∀ q, s.heap.size ≤ q → A q) {a0 : Nat} {q_books : Nat} {q_books_tos : Nat} {q_times : Nat} {q_ocean : Nat} {q_books_cells : Nat} {q_books_froms : Nat} {q_books_lows : Nat} {q_books_highs : Nat} {r_times : Nat → Nat} {s_books_count : Int32} {s_books_tos : Nat → Int32} {s_times : Nat → Nat → Int32} {x1 : Int32} {o_r : Int32} : ∀ (k : Nat) (x2 : Int32) (x3 : Int32), f_X5_latestBegin_21 s_books_count s_books_tos s_times x1 k x2 x3 = some o_r → ∀ (H : Heap) (locs : List Loc), va_P D vwCl (w_X5_latestBegin a0 q_books q_books_tos q_times q_ocean q_books_cells q_books_froms q_books_lows q_books_highs r_times cA s_books_count s_books_tos s_times) H → va_D A (w_X5_latestBegin a0 q_books q_books_tos q_times q_ocean q_books_cells q_books_froms q_books_lows q_books_highs r_times cA s_books_count s_books_tos s_times) → va_S A s.heap H locs → ∀ ls : Array Slot, lv_has ls 4 [(0, .ref a0), (1, .int x1), (2, .int x2), (3, .int x3)] → W p l e rm_X5_latestBegin s m args below meth c H locs 0 0 (MQ below (CQ D (some (.int o_r)) (w_X5_latestBegin a0 q_books q_books_tos q_times q_ocean q_books_cells q_books_froms q_books_lows q_books_highs r_times cA s_books_count s_books_tos s_times) A) args s 0 0 A) (F0 m 21 ls []) := by
  obtain ⟨hx, hb, hml, hown, hts, hr, hlocks, hX⟩ := C0
  have hK := hX.1
  have hN := hX.2
  intro k
  induction k with
  | zero =>
    intro x2 x3 hf
    cases hf
  | succ k ih =>
    intro x2 x3 hf H locs hP hD hS ls hl
    rw [f_X5_latestBegin_21] at hf
    refine lv_iload_n hx hb dX5_latestBegin_21 rfl (lv_at hl 3 rfl) ?_
    refine lv_aload_n hx hb dX5_latestBegin_22 rfl (lv_at hl 0 rfl) ?_
    refine va_get (D := D) (ci := 5) (v := .ref q_books) (C := RX5) (T := TX5) (N := 3) hx hb hts hn_X5_latestBegin_X5 hown hK hP 0 rfl rfl 1 (by decide) (hts _ hw_X5_latestBegin_f20) (fun _ h9 => h9) rfl dX5_latestBegin_23 ?_
    refine va_getN (D := D) (ci := 0) (v := .int s_books_count) (C := RX0) (T := TX0) (N := 6) hx hb hts hn_X5_latestBegin_X0 hown hK hP 1 rfl rfl 5 (by decide) (va_Nw.use rfl (hN _ nw_X5_24)) (fun _ h9 => h9) rfl dX5_latestBegin_26 ?_
    refine lv_icmp_ge (tgt := 61) hx hb dX5_latestBegin_29 (by decide) (fun c_1 => ?_) (fun c_1 => ?_)
    · have hf := pbr_t c_1 hf
      refine lv_iload_n hx hb dX5_latestBegin_61 rfl (lv_at hl 2 rfl) ?_
      obtain rfl := pe1 hf
      exact m_iret hx hb hr hlocks hP hS dX5_latestBegin_62
    have hf := pbr_f c_1 hf
    refine lv_iload_n hx hb dX5_latestBegin_32 rfl (lv_at hl 2 rfl) ?_
    refine lv_aload_n hx hb dX5_latestBegin_33 rfl (lv_at hl 0 rfl) ?_
    refine va_get (D := D) (ci := 5) (v := .ref q_books) (C := RX5) (T := TX5) (N := 3) hx hb hts hn_X5_latestBegin_X5 hown hK hP 0 rfl rfl 1 (by decide) (hts _ hw_X5_latestBegin_f20) (fun _ h9 => h9) rfl dX5_latestBegin_34 ?_
    refine va_getN (D := D) (ci := 0) (v := .ref q_books_tos) (C := RX0) (T := TX0) (N := 6) hx hb hts hn_X5_latestBegin_X0 hown hK hP 1 rfl rfl 2 (by decide) (va_Nw.use rfl (hN _ nw_X5_49)) (fun _ h9 => h9) rfl dX5_latestBegin_37 ?_
    refine lv_iload_n hx hb dX5_latestBegin_40 rfl (lv_at hl 3 rfl) ?_
    obtain ⟨g_2, hf⟩ := pgd_e hf
    refine va_iald hx hb hK hP 2 1 rfl rfl g_2 dX5_latestBegin_41 ?_
    refine lv_aload_n hx hb dX5_latestBegin_42 rfl (lv_at hl 0 rfl) ?_
    refine va_get (D := D) (ci := 5) (v := .ref q_times) (C := RX5) (T := TX5) (N := 3) hx hb hts hn_X5_latestBegin_X5 hown hK hP 0 rfl rfl 2 (by decide) (hts _ hw_X5_latestBegin_f11) (fun _ h9 => h9) rfl dX5_latestBegin_43 ?_
    refine lv_iload_n hx hb dX5_latestBegin_46 rfl (lv_at hl 3 rfl) ?_
    refine m_aald hx hb hK hP 3 rfl g_2 dX5_latestBegin_47 ?_
    refine lv_iload_n hx hb dX5_latestBegin_48 rfl (lv_at hl 1 rfl) ?_
    obtain ⟨g_3, hf⟩ := pgd_e hf
    refine m_rald (i := x3) hx hb hK hP rfl g_2 g_3 dX5_latestBegin_49 ?_
    refine lv_isub hx hb dX5_latestBegin_50 ?_
    refine va_mmin hx hb (hml.trans hl.1.symm) hown (hts _ hw_X5_latestBegin_m52) (hts _ hw_X5_latestBegin_smin) (hts _ hw_X5_latestBegin_imath) (hts _ hw_X5_latestBegin_kmin) (Nat.le_of_ble_eq_true rfl) (Nat.le_of_ble_eq_true rfl) (Nat.zero_le _) (Nat.zero_le _) dX5_latestBegin_51 ?_
    refine lv_topi (fun x2_4 ex2_4 => ?_)
    have hf := plt_e ex2_4 hf
    refine lv_istore_n (lv' := [(2, .int x2_4), (0, .ref a0), (1, .int x1), (3, .int x3)]) hx hb dX5_latestBegin_54 rfl hl (by decide) rfl (fun ls hl => ?_)
    obtain ⟨x3_5, ex3_5⟩ : ∃ z : Int32, z = x3 + (1 : Int32) := ⟨_, rfl⟩
    have hf := plt_e ex3_5 hf
    refine lv_iinc (v := x3_5) (lv' := [(3, .int x3_5), (2, .int x2_4), (0, .ref a0), (1, .int x1)]) hx hb dX5_latestBegin_55 hl (k := 3) rfl (by rw [ex3_5]; rfl) (by decide) rfl (fun ls hl => ?_)
    refine lv_goto (tgt := 21) hx hb dX5_latestBegin_58 (by decide) ?_
    exact ih x2_4 x3_5 hf _ _ hP hD hS ls (lv_sub hl [2, 3, 1, 0] rfl)

def f_X5_latestBegin (x1 : Int32) (s_books_count : Int32) (s_books_tos : Nat → Int32) (s_times : Nat → Nat → Int32) : Option ((Int32)) :=
  pgd (pin x1 48) (
  plt (((s_books_tos (0 : Int32).toNatClampNeg) - (s_times (0 : Int32).toNatClampNeg x1.toNatClampNeg)) : Int32) (fun x2_2 => (
  f_X5_latestBegin_21 s_books_count s_books_tos s_times x1 FU x2_2 (1 : Int32))))

set_option maxRecDepth 100000 in
set_option maxHeartbeats 4000000 in
theorem ct_X5_latestBegin (l : Launch) (D : va_G) (cA : Nat → ClassId) (x1 : Int32) (a0 : Nat) (q_books : Nat) (q_books_tos : Nat) (q_times : Nat) (q_ocean : Nat) (q_books_cells : Nat) (q_books_froms : Nat) (q_books_lows : Nat) (q_books_highs : Nat) (r_times : Nat → Nat) (s_books_count : Int32) (s_books_tos : Nat → Int32) (s_times : Nat → Nat → Int32) (o_r : Int32) (hf : f_X5_latestBegin x1 s_books_count s_books_tos s_times = some o_r) : CT l yX5_latestBegin wsX5_latestBegin rm_X5_latestBegin D cA [.ref a0, .int x1] (w_X5_latestBegin a0 q_books q_books_tos q_times q_ocean q_books_cells q_books_froms q_books_lows q_books_highs r_times cA s_books_count s_books_tos s_times) (w_X5_latestBegin a0 q_books q_books_tos q_times q_ocean q_books_cells q_books_froms q_books_lows q_books_highs r_times cA s_books_count s_books_tos s_times) (some (.int o_r)) := by
  refine CT.ofW (cc := cX5_latestBegin) (maxL := 4) (ret := (some .int)) (by decide +kernel) rfl (Nat.le_of_ble_eq_true rfl) ?_
  intro p e s m below meth c A C0 hA hP hD ls hl
  have C0 : MX p s m [.ref a0, .int x1].toArray meth c cX5_latestBegin 4 wsX5_latestBegin RX5 (some .int) D cA := C0
  have hl : lv_has ls 4 [(0, .ref a0), (1, .int x1)] := hl
  obtain ⟨hx, hb, hml, hown, hts, hr, hlocks, hX⟩ := id C0
  have hK := hX.1
  have hN := hX.2
  have hS : va_S A s.heap s.heap [] := va_S.rf
  unfold f_X5_latestBegin at hf
  refine lv_aload_n hx hb dX5_latestBegin_0 rfl (lv_at hl 0 rfl) ?_
  refine va_get (D := D) (ci := 5) (v := .ref q_books) (C := RX5) (T := TX5) (N := 3) hx hb hts hn_X5_latestBegin_X5 hown hK hP 0 rfl rfl 1 (by decide) (hts _ hw_X5_latestBegin_f20) (fun _ h9 => h9) rfl dX5_latestBegin_1 ?_
  refine va_getN (D := D) (ci := 0) (v := .ref q_books_tos) (C := RX0) (T := TX0) (N := 6) hx hb hts hn_X5_latestBegin_X0 hown hK hP 1 rfl rfl 2 (by decide) (va_Nw.use rfl (hN _ nw_X5_49)) (fun _ h9 => h9) rfl dX5_latestBegin_4 ?_
  refine lv_iconst (v := (0 : Int32)) hx hb dX5_latestBegin_7 (by decide) ?_
  refine va_iald hx hb hK hP 2 1 rfl rfl (show pin (0 : Int32) 6 by decide +kernel) dX5_latestBegin_8 ?_
  refine lv_aload_n hx hb dX5_latestBegin_9 rfl (lv_at hl 0 rfl) ?_
  refine va_get (D := D) (ci := 5) (v := .ref q_times) (C := RX5) (T := TX5) (N := 3) hx hb hts hn_X5_latestBegin_X5 hown hK hP 0 rfl rfl 2 (by decide) (hts _ hw_X5_latestBegin_f11) (fun _ h9 => h9) rfl dX5_latestBegin_10 ?_
  refine lv_iconst (v := (0 : Int32)) hx hb dX5_latestBegin_13 (by decide) ?_
  refine m_aald hx hb hK hP 3 rfl (show pin (0 : Int32) 6 by decide +kernel) dX5_latestBegin_14 ?_
  refine lv_iload_n hx hb dX5_latestBegin_15 rfl (lv_at hl 1 rfl) ?_
  obtain ⟨g_1, hf⟩ := pgd_e hf
  refine m_rald (i := (0 : Int32)) hx hb hK hP rfl (show pin (0 : Int32) 6 by decide +kernel) g_1 dX5_latestBegin_16 ?_
  refine lv_isub hx hb dX5_latestBegin_17 ?_
  refine lv_topi (fun x2_2 ex2_2 => ?_)
  have hf := plt_e ex2_2 hf
  refine lv_istore_n (lv' := [(2, .int x2_2), (0, .ref a0), (1, .int x1)]) hx hb dX5_latestBegin_18 rfl hl (by decide) rfl (fun ls hl => ?_)
  refine lv_iconst (v := (1 : Int32)) hx hb dX5_latestBegin_19 (by decide) ?_
  refine lv_istore_n (lv' := [(3, .int (1 : Int32)), (2, .int x2_2), (0, .ref a0), (1, .int x1)]) hx hb dX5_latestBegin_20 rfl hl (by decide) rfl (fun ls hl => ?_)
  exact k_X5_latestBegin_21 C0 hA FU x2_2 (1 : Int32) hf _ _ hP hD hS ls (lv_sub hl [2, 3, 1, 0] rfl)

/-! ===== OrphanWave$Search.heightsFit(II)Z ===== -/
abbrev rm_X5_heightsFit : Room := { frames := 1, cells := 0, slots := 0, locals := 25 }
abbrev wx_X5_heightsFit (a0 : Nat) (q_books : Nat) (q_books_cells : Nat) (q_ocean : Nat) (q_ocean_depths : Nat) (q_books_lows : Nat) (q_books_highs : Nat) (q_times : Nat) (q_books_froms : Nat) (q_books_tos : Nat) (q_ocean_figures : Nat) (q_ocean_times : Nat) (r_times : Nat → Nat) (cA : Nat → ClassId) (s_books_count : Int32) (s_books_cells : Nat → Int32) (s_ocean_pace : Int32) (s_ocean_fade : Int32) (s_ocean_depths : Nat → Int32) (s_books_lows : Nat → Int32) (s_books_highs : Nat → Int32) (s_times : Nat → Nat → Int32) : va_W := [(a0, .inr (5, [.ref q_ocean, .ref q_books, .ref q_times])), (q_books, .inr (0, [.ref q_books_cells, .ref q_books_froms, .ref q_books_tos, .ref q_books_lows, .ref q_books_highs, .int s_books_count])), (q_books_cells, .inl (cA 1, 6, .inl s_books_cells)), (q_ocean, .inr (4, [.ref q_ocean_depths, .ref q_ocean_figures, .ref q_ocean_times, .int s_ocean_pace, .int s_ocean_fade])), (q_ocean_depths, .inl (cA 1, 48, .inl s_ocean_depths)), (q_books_lows, .inl (cA 1, 6, .inl s_books_lows)), (q_books_highs, .inl (cA 1, 6, .inl s_books_highs)), (q_times, .inl (cA 5, 6, .inr (.inr (.inr (.inr (gro 6 r_times))))))]
abbrev w_X5_heightsFit (a0 : Nat) (q_books : Nat) (q_books_cells : Nat) (q_ocean : Nat) (q_ocean_depths : Nat) (q_books_lows : Nat) (q_books_highs : Nat) (q_times : Nat) (q_books_froms : Nat) (q_books_tos : Nat) (q_ocean_figures : Nat) (q_ocean_times : Nat) (r_times : Nat → Nat) (cA : Nat → ClassId) (s_books_count : Int32) (s_books_cells : Nat → Int32) (s_ocean_pace : Int32) (s_ocean_fade : Int32) (s_ocean_depths : Nat → Int32) (s_books_lows : Nat → Int32) (s_books_highs : Nat → Int32) (s_times : Nat → Nat → Int32) : va_W := [(a0, .inr (5, [.ref q_ocean, .ref q_books, .ref q_times])), (q_books, .inr (0, [.ref q_books_cells, .ref q_books_froms, .ref q_books_tos, .ref q_books_lows, .ref q_books_highs, .int s_books_count])), (q_books_cells, .inl (cA 1, 6, .inl s_books_cells)), (q_ocean, .inr (4, [.ref q_ocean_depths, .ref q_ocean_figures, .ref q_ocean_times, .int s_ocean_pace, .int s_ocean_fade])), (q_ocean_depths, .inl (cA 1, 48, .inl s_ocean_depths)), (q_books_lows, .inl (cA 1, 6, .inl s_books_lows)), (q_books_highs, .inl (cA 1, 6, .inl s_books_highs)), (q_times, .inl (cA 5, 6, .inr (.inr (.inr (.inr (gro 6 r_times))))))] ++ grw 6 r_times (cA 1) 48 s_times
theorem hn_X5_heightsFit_X5 : ∀ w ∈ u_ws RX5 TX5 3, w ∈ wsX5_heightsFit := by decide +kernel
theorem hn_X5_heightsFit_X0 : ∀ w ∈ u_ws RX0 TX0 6, w ∈ wsX5_heightsFit := by decide +kernel
theorem hw_X5_heightsFit_f20 : Cond.fieldLink RX5 20 "OrphanWave$Search" "books" "LOrphanWave$Books;" ∈ wsX5_heightsFit := by decide +kernel
theorem hw_X5_heightsFit_f16 : Cond.fieldLink RX5 16 "OrphanWave$Search" "ocean" "LOrphanWave$Ocean;" ∈ wsX5_heightsFit := by decide +kernel
theorem hw_X5_heightsFit_f11 : Cond.fieldLink RX5 11 "OrphanWave$Search" "times" "[[I" ∈ wsX5_heightsFit := by decide +kernel

def f_X5_heightsFit_2 (s_books_count : Int32) (s_books_cells : Nat → Int32) (s_ocean_fade : Int32) (s_ocean_depths : Nat → Int32) (s_books_lows : Nat → Int32) (s_books_highs : Nat → Int32) (s_times : Nat → Nat → Int32) (x1 : Int32) (x2 : Int32) : Nat → (Int32) → Option ((Int32))
  | 0, _ => none
  | k + 1, x3 =>
    pbr (s_books_count ≤ x3)
      (some ((1 : Int32)))
      (pgd (pin x3 6) (
      pgd (pin x1 48) (
      pcl (f_X4_swell (s_times x3.toNatClampNeg x1.toNatClampNeg) x2 (s_books_cells x3.toNatClampNeg) s_ocean_fade s_ocean_depths) (fun r_4 => (
      pbr (r_4 < (s_books_lows x3.toNatClampNeg))
        (some ((0 : Int32)))
        (pbr (r_4 ≤ (s_books_highs x3.toNatClampNeg))
          (plt (x3 + (1 : Int32) : Int32) (fun x3_8 => (
          (f_X5_heightsFit_2 s_books_count s_books_cells s_ocean_fade s_ocean_depths s_books_lows s_books_highs s_times x1 x2 k) x3_8)))
          (some ((0 : Int32)))))))))

set_option maxRecDepth 100000 in
set_option maxHeartbeats 4000000 in
theorem k_X5_heightsFit_2 {p : Program} {l : Launch} {e : Env} {s : State} {m : MethodId} {args : Array Value} {below : List Frame} {meth : Method} {c : Code} {A : Nat → Prop} {D : va_G} {cA : Nat → ClassId} (C0 : MX p s m args meth c cX5_heightsFit 5 wsX5_heightsFit RX5 (some .boolean) D cA) (hA : ∀ q, s.heap.size ≤ q → A q) {a0 : Nat} {q_books : Nat} {q_books_cells : Nat} {q_ocean : Nat} {q_ocean_depths : Nat} {q_books_lows : Nat} {q_books_highs : Nat} {q_times : Nat} {q_books_froms : Nat} {q_books_tos : Nat} {q_ocean_figures : Nat} {q_ocean_times : Nat} {r_times : Nat → Nat} {s_books_count : Int32} {s_books_cells : Nat → Int32} {s_ocean_pace : Int32} {s_ocean_fade : Int32} {s_ocean_depths : Nat → Int32} {s_books_lows : Nat → Int32} {s_books_highs : Nat → Int32} {s_times : Nat → Nat → Int32} {x1 : Int32} {x2 : Int32} {o_r : Int32} : ∀ (k : Nat) (x3 : Int32), f_X5_heightsFit_2 s_books_count s_books_cells s_ocean_fade s_ocean_depths s_books_lows s_books_highs s_times x1 x2 k x3 = some o_r → ∀ (H : Heap) (locs : List Loc), va_P D vwCl (w_X5_heightsFit a0 q_books q_books_cells q_ocean q_ocean_depths q_books_lows q_books_highs q_times q_books_froms q_books_tos q_ocean_figures q_ocean_times r_times cA s_books_count s_books_cells s_ocean_pace s_ocean_fade s_ocean_depths s_books_lows s_books_highs s_times) H → va_D A (w_X5_heightsFit a0 q_books q_books_cells q_ocean q_ocean_depths q_books_lows q_books_highs q_times q_books_froms q_books_tos q_ocean_figures q_ocean_times r_times cA s_books_count s_books_cells s_ocean_pace s_ocean_fade s_ocean_depths s_books_lows s_books_highs s_times) → va_S A s.heap H locs → ∀ ls : Array Slot, lv_has ls 5 [(0, .ref a0), (1, .int x1), (2, .int x2), (3, .int x3)] → W p l e rm_X5_heightsFit s m args below meth c H locs 0 0 (MQ below (CQ D (some (.int o_r)) (w_X5_heightsFit a0 q_books q_books_cells q_ocean q_ocean_depths q_books_lows q_books_highs q_times q_books_froms q_books_tos q_ocean_figures q_ocean_times r_times cA s_books_count s_books_cells s_ocean_pace s_ocean_fade s_ocean_depths s_books_lows s_books_highs s_times) A) args s 0 0 A) (F0 m 2 ls []) := by
  obtain ⟨hx, hb, hml, hown, hts, hr, hlocks, hX⟩ := C0
  have hK := hX.1
  have hN := hX.2
  intro k
  induction k with
  | zero =>
    intro x3 hf
    cases hf
  | succ k ih =>
    intro x3 hf H locs hP hD hS ls hl
    rw [f_X5_heightsFit_2] at hf
    refine lv_iload_n hx hb dX5_heightsFit_2 rfl (lv_at hl 3 rfl) ?_
    refine lv_aload_n hx hb dX5_heightsFit_3 rfl (lv_at hl 0 rfl) ?_
    refine va_get (D := D) (ci := 5) (v := .ref q_books) (C := RX5) (T := TX5) (N := 3) hx hb hts hn_X5_heightsFit_X5 hown hK hP 0 rfl rfl 1 (by decide) (hts _ hw_X5_heightsFit_f20) (fun _ h9 => h9) rfl dX5_heightsFit_4 ?_
    refine va_getN (D := D) (ci := 0) (v := .int s_books_count) (C := RX0) (T := TX0) (N := 6) hx hb hts hn_X5_heightsFit_X0 hown hK hP 1 rfl rfl 5 (by decide) (va_Nw.use rfl (hN _ nw_X5_24)) (fun _ h9 => h9) rfl dX5_heightsFit_7 ?_
    refine lv_icmp_ge (tgt := 76) hx hb dX5_heightsFit_10 (by decide) (fun c_1 => ?_) (fun c_1 => ?_)
    · have hf := pbr_t c_1 hf
      refine lv_iconst (v := (1 : Int32)) hx hb dX5_heightsFit_76 (by decide) ?_
      obtain rfl := pe1 hf
      exact m_zret (by decide) hx hb hr hlocks hP hS dX5_heightsFit_77
    have hf := pbr_f c_1 hf
    refine lv_aload_n hx hb dX5_heightsFit_13 rfl (lv_at hl 0 rfl) ?_
    refine va_get (D := D) (ci := 5) (v := .ref q_ocean) (C := RX5) (T := TX5) (N := 3) hx hb hts hn_X5_heightsFit_X5 hown hK hP 0 rfl rfl 0 (by decide) (hts _ hw_X5_heightsFit_f16) (fun _ h9 => h9) rfl dX5_heightsFit_14 ?_
    refine lv_aload_n hx hb dX5_heightsFit_17 rfl (lv_at hl 0 rfl) ?_
    refine va_get (D := D) (ci := 5) (v := .ref q_times) (C := RX5) (T := TX5) (N := 3) hx hb hts hn_X5_heightsFit_X5 hown hK hP 0 rfl rfl 2 (by decide) (hts _ hw_X5_heightsFit_f11) (fun _ h9 => h9) rfl dX5_heightsFit_18 ?_
    refine lv_iload_n hx hb dX5_heightsFit_21 rfl (lv_at hl 3 rfl) ?_
    obtain ⟨g_2, hf⟩ := pgd_e hf
    refine m_aald hx hb hK hP 7 rfl g_2 dX5_heightsFit_22 ?_
    refine lv_iload_n hx hb dX5_heightsFit_23 rfl (lv_at hl 1 rfl) ?_
    obtain ⟨g_3, hf⟩ := pgd_e hf
    refine m_rald (i := x3) hx hb hK hP rfl g_2 g_3 dX5_heightsFit_24 ?_
    refine lv_iload_n hx hb dX5_heightsFit_25 rfl (lv_at hl 2 rfl) ?_
    refine lv_aload_n hx hb dX5_heightsFit_26 rfl (lv_at hl 0 rfl) ?_
    refine va_get (D := D) (ci := 5) (v := .ref q_books) (C := RX5) (T := TX5) (N := 3) hx hb hts hn_X5_heightsFit_X5 hown hK hP 0 rfl rfl 1 (by decide) (hts _ hw_X5_heightsFit_f20) (fun _ h9 => h9) rfl dX5_heightsFit_27 ?_
    refine va_getN (D := D) (ci := 0) (v := .ref q_books_cells) (C := RX0) (T := TX0) (N := 6) hx hb hts hn_X5_heightsFit_X0 hown hK hP 1 rfl rfl 0 (by decide) (va_Nw.use rfl (hN _ nw_X5_30)) (fun _ h9 => h9) rfl dX5_heightsFit_30 ?_
    refine lv_iload_n hx hb dX5_heightsFit_33 rfl (lv_at hl 3 rfl) ?_
    refine va_iald hx hb hK hP 2 1 rfl rfl g_2 dX5_heightsFit_34 ?_
    obtain ⟨r_4, hc_5, hf⟩ := pcl_e hf
    refine m_callV2 (As := [.int (s_times x3.toNatClampNeg x1.toNatClampNeg), .int x2, .int (s_books_cells x3.toNatClampNeg)]) (rest := []) ⟨hx, hb, hml, hown, hts⟩ hX (ct_X4_swell l D cA (s_times x3.toNatClampNeg x1.toNatClampNeg) x2 (s_books_cells x3.toNatClampNeg) q_ocean q_ocean_depths q_ocean_figures q_ocean_times s_ocean_pace s_ocean_fade s_ocean_depths r_4 hc_5) (cwV 3 hts gX5_heightsFit_X4_swell rfl rfl rfl (by decide +kernel) ⟨Nat.le_of_ble_eq_true rfl, Nat.le_of_ble_eq_true rfl⟩) hP hD hS hA [3, 4] [0, 1, 2, 5, 6, 7, 8, 9, 10, 11, 12, 13] 14 (by decide) rfl rfl (WS' := (w_X5_heightsFit a0 q_books q_books_cells q_ocean q_ocean_depths q_books_lows q_books_highs q_times q_books_froms q_books_tos q_ocean_figures q_ocean_times r_times cA s_books_count s_books_cells s_ocean_pace s_ocean_fade s_ocean_depths s_books_lows s_books_highs s_times)) (WR := [(a0, .inr (5, [.ref q_ocean, .ref q_books, .ref q_times])), (q_books, .inr (0, [.ref q_books_cells, .ref q_books_froms, .ref q_books_tos, .ref q_books_lows, .ref q_books_highs, .int s_books_count])), (q_books_cells, .inl (cA 1, 6, .inl s_books_cells)), (q_books_lows, .inl (cA 1, 6, .inl s_books_lows)), (q_books_highs, .inl (cA 1, 6, .inl s_books_highs)), (q_times, .inl (cA 5, 6, .inr (.inr (.inr (.inr (gro 6 r_times))))))] ++ grw 6 r_times (cA 1) 48 s_times) rfl rfl rfl rfl (by decide) (by decide) 3 4 rfl rfl rfl hl.1 rfl (st' := [.int r_4]) rfl (Nat.le_of_ble_eq_true rfl) ⟨Nat.zero_le _, Nat.zero_le _⟩ dX5_heightsFit_35 (fun H locs hP hD hS => ?_)
    refine lv_istore (lv' := [(4, .int r_4), (0, .ref a0), (1, .int x1), (2, .int x2), (3, .int x3)]) hx hb dX5_heightsFit_38 hl (by decide) rfl (fun ls hl => ?_)
    refine lv_iload hx hb dX5_heightsFit_40 (lv_at hl 0 rfl) ?_
    refine lv_aload_n hx hb dX5_heightsFit_42 rfl (lv_at hl 1 rfl) ?_
    refine va_get (D := D) (ci := 5) (v := .ref q_books) (C := RX5) (T := TX5) (N := 3) hx hb hts hn_X5_heightsFit_X5 hown hK hP 0 rfl rfl 1 (by decide) (hts _ hw_X5_heightsFit_f20) (fun _ h9 => h9) rfl dX5_heightsFit_43 ?_
    refine va_getN (D := D) (ci := 0) (v := .ref q_books_lows) (C := RX0) (T := TX0) (N := 6) hx hb hts hn_X5_heightsFit_X0 hown hK hP 1 rfl rfl 3 (by decide) (va_Nw.use rfl (hN _ nw_X5_81)) (fun _ h9 => h9) rfl dX5_heightsFit_46 ?_
    refine lv_iload_n hx hb dX5_heightsFit_49 rfl (lv_at hl 4 rfl) ?_
    refine va_iald hx hb hK hP 5 1 rfl rfl g_2 dX5_heightsFit_50 ?_
    refine lv_icmp_lt (tgt := 68) hx hb dX5_heightsFit_51 (by decide) (fun c_6 => ?_) (fun c_6 => ?_)
    · have hf := pbr_t c_6 hf
      refine lv_iconst (v := (0 : Int32)) hx hb dX5_heightsFit_68 (by decide) ?_
      obtain rfl := pe1 hf
      exact m_zret (by decide) hx hb hr hlocks hP hS dX5_heightsFit_69
    have hf := pbr_f c_6 hf
    refine lv_iload hx hb dX5_heightsFit_54 (lv_at hl 0 rfl) ?_
    refine lv_aload_n hx hb dX5_heightsFit_56 rfl (lv_at hl 1 rfl) ?_
    refine va_get (D := D) (ci := 5) (v := .ref q_books) (C := RX5) (T := TX5) (N := 3) hx hb hts hn_X5_heightsFit_X5 hown hK hP 0 rfl rfl 1 (by decide) (hts _ hw_X5_heightsFit_f20) (fun _ h9 => h9) rfl dX5_heightsFit_57 ?_
    refine va_getN (D := D) (ci := 0) (v := .ref q_books_highs) (C := RX0) (T := TX0) (N := 6) hx hb hts hn_X5_heightsFit_X0 hown hK hP 1 rfl rfl 4 (by decide) (va_Nw.use rfl (hN _ nw_X5_84)) (fun _ h9 => h9) rfl dX5_heightsFit_60 ?_
    refine lv_iload_n hx hb dX5_heightsFit_63 rfl (lv_at hl 4 rfl) ?_
    refine va_iald hx hb hK hP 6 1 rfl rfl g_2 dX5_heightsFit_64 ?_
    refine lv_icmp_le (tgt := 70) hx hb dX5_heightsFit_65 (by decide) (fun c_7 => ?_) (fun c_7 => ?_)
    · have hf := pbr_t c_7 hf
      obtain ⟨x3_8, ex3_8⟩ : ∃ z : Int32, z = x3 + (1 : Int32) := ⟨_, rfl⟩
      have hf := plt_e ex3_8 hf
      refine lv_iinc (v := x3_8) (lv' := [(3, .int x3_8), (4, .int r_4), (0, .ref a0), (1, .int x1), (2, .int x2)]) hx hb dX5_heightsFit_70 hl (k := 4) rfl (by rw [ex3_8]; rfl) (by decide) rfl (fun ls hl => ?_)
      refine lv_goto (tgt := 2) hx hb dX5_heightsFit_73 (by decide) ?_
      exact ih x3_8 hf _ _ hP hD hS ls (lv_sub hl [2, 3, 4, 0] rfl)
    have hf := pbr_f c_7 hf
    refine lv_iconst (v := (0 : Int32)) hx hb dX5_heightsFit_68 (by decide) ?_
    obtain rfl := pe1 hf
    exact m_zret (by decide) hx hb hr hlocks hP hS dX5_heightsFit_69

def f_X5_heightsFit (x1 : Int32) (x2 : Int32) (s_books_count : Int32) (s_books_cells : Nat → Int32) (s_ocean_fade : Int32) (s_ocean_depths : Nat → Int32) (s_books_lows : Nat → Int32) (s_books_highs : Nat → Int32) (s_times : Nat → Nat → Int32) : Option ((Int32)) :=
  f_X5_heightsFit_2 s_books_count s_books_cells s_ocean_fade s_ocean_depths s_books_lows s_books_highs s_times x1 x2 FU (0 : Int32)

set_option maxRecDepth 100000 in
set_option maxHeartbeats 4000000 in
theorem ct_X5_heightsFit (l : Launch) (D : va_G) (cA : Nat → ClassId) (x1 : Int32) (x2 : Int32) (a0 : Nat) (q_books : Nat) (q_books_cells : Nat) (q_ocean : Nat) (q_ocean_depths : Nat) (q_books_lows : Nat) (q_books_highs : Nat) (q_times : Nat) (q_books_froms : Nat) (q_books_tos : Nat) (q_ocean_figures : Nat) (q_ocean_times : Nat) (r_times : Nat → Nat) (s_books_count : Int32) (s_books_cells : Nat → Int32) (s_ocean_pace : Int32) (s_ocean_fade : Int32) (s_ocean_depths : Nat → Int32) (s_books_lows : Nat → Int32) (s_books_highs : Nat → Int32) (s_times : Nat → Nat → Int32) (o_r : Int32) (hf : f_X5_heightsFit x1 x2 s_books_count s_books_cells s_ocean_fade s_ocean_depths s_books_lows s_books_highs s_times = some o_r) : CT l yX5_heightsFit wsX5_heightsFit rm_X5_heightsFit D cA [.ref a0, .int x1, .int x2] (w_X5_heightsFit a0 q_books q_books_cells q_ocean q_ocean_depths q_books_lows q_books_highs q_times q_books_froms q_books_tos q_ocean_figures q_ocean_times r_times cA s_books_count s_books_cells s_ocean_pace s_ocean_fade s_ocean_depths s_books_lows s_books_highs s_times) (w_X5_heightsFit a0 q_books q_books_cells q_ocean q_ocean_depths q_books_lows q_books_highs q_times q_books_froms q_books_tos q_ocean_figures q_ocean_times r_times cA s_books_count s_books_cells s_ocean_pace s_ocean_fade s_ocean_depths s_books_lows s_books_highs s_times) (some (.int o_r)) := by
  refine CT.ofW (cc := cX5_heightsFit) (maxL := 5) (ret := (some .boolean)) (by decide +kernel) rfl (Nat.le_of_ble_eq_true rfl) ?_
  intro p e s m below meth c A C0 hA hP hD ls hl
  have C0 : MX p s m [.ref a0, .int x1, .int x2].toArray meth c cX5_heightsFit 5 wsX5_heightsFit RX5 (some .boolean) D cA := C0
  have hl : lv_has ls 5 [(0, .ref a0), (1, .int x1), (2, .int x2)] := hl
  obtain ⟨hx, hb, hml, hown, hts, hr, hlocks, hX⟩ := id C0
  have hK := hX.1
  have hN := hX.2
  have hS : va_S A s.heap s.heap [] := va_S.rf
  unfold f_X5_heightsFit at hf
  refine lv_iconst (v := (0 : Int32)) hx hb dX5_heightsFit_0 (by decide) ?_
  refine lv_istore_n (lv' := [(3, .int (0 : Int32)), (0, .ref a0), (1, .int x1), (2, .int x2)]) hx hb dX5_heightsFit_1 rfl hl (by decide) rfl (fun ls hl => ?_)
  exact k_X5_heightsFit_2 C0 hA FU (0 : Int32) hf _ _ hP hD hS ls (lv_sub hl [1, 2, 3, 0] rfl)
