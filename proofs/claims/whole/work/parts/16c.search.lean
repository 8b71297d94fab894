/-! ===== OrphanWave$Search.likeliestCell()I ===== -/
abbrev rm_X5_likeliestCell : Room := { frames := 4, cells := 0, slots := 0, locals := 81 }
abbrev wx_X5_likeliestCell (a0 : Nat) (q_books : Nat) (q_ocean : Nat) (q_books_tos : Nat) (q_books_froms : Nat) (q_books_cells : Nat) (q_ocean_depths : Nat) (q_books_lows : Nat) (q_books_highs : Nat) (q_times : Nat) (q_ocean_figures : Nat) (q_ocean_times : Nat) (r_times : Nat → Nat) (cA : Nat → ClassId) (s_books_count : Int32) (s_ocean_pace : Int32) (s_ocean_fade : Int32) (s_books_tos : Nat → Int32) (s_books_froms : Nat → Int32) (s_books_cells : Nat → Int32) (s_ocean_depths : Nat → Int32) (s_books_lows : Nat → Int32) (s_books_highs : Nat → Int32) (s_times : Nat → Nat → Int32) : va_W := [(a0, .inr (5, [.ref q_ocean, .ref q_books, .ref q_times])), (q_books, .inr (0, [.ref q_books_cells, .ref q_books_froms, .ref q_books_tos, .ref q_books_lows, .ref q_books_highs, .int s_books_count])), (q_ocean, .inr (4, [.ref q_ocean_depths, .ref q_ocean_figures, .ref q_ocean_times, .int s_ocean_pace, .int s_ocean_fade])), (q_books_tos, .inl (cA 1, 6, .inl s_books_tos)), (q_books_froms, .inl (cA 1, 6, .inl s_books_froms)), (q_books_cells, .inl (cA 1, 6, .inl s_books_cells)), (q_ocean_depths, .inl (cA 1, 48, .inl s_ocean_depths)), (q_books_lows, .inl (cA 1, 6, .inl s_books_lows)), (q_books_highs, .inl (cA 1, 6, .inl s_books_highs)), (q_times, .inl (cA 5, 6, .inr (.inr (.inr (.inr (gro 6 r_times))))))]
abbrev w_X5_likeliestCell (a0 : Nat) (q_books : Nat) (q_ocean : Nat) (q_books_tos : Nat) (q_books_froms : Nat) (q_books_cells : Nat) (q_ocean_depths : Nat) (q_books_lows : Nat) (q_books_highs : Nat) (q_times : Nat) (q_ocean_figures : Nat) (q_ocean_times : Nat) (r_times : Nat → Nat) (cA : Nat → ClassId) (s_books_count : Int32) (s_ocean_pace : Int32) (s_ocean_fade : Int32) (s_books_tos : Nat → Int32) (s_books_froms : Nat → Int32) (s_books_cells : Nat → Int32) (s_ocean_depths : Nat → Int32) (s_books_lows : Nat → Int32) (s_books_highs : Nat → Int32) (s_times : Nat → Nat → Int32) : va_W := [(a0, .inr (5, [.ref q_ocean, .ref q_books, .ref q_times])), (q_books, .inr (0, [.ref q_books_cells, .ref q_books_froms, .ref q_books_tos, .ref q_books_lows, .ref q_books_highs, .int s_books_count])), (q_ocean, .inr (4, [.ref q_ocean_depths, .ref q_ocean_figures, .ref q_ocean_times, .int s_ocean_pace, .int s_ocean_fade])), (q_books_tos, .inl (cA 1, 6, .inl s_books_tos)), (q_books_froms, .inl (cA 1, 6, .inl s_books_froms)), (q_books_cells, .inl (cA 1, 6, .inl s_books_cells)), (q_ocean_depths, .inl (cA 1, 48, .inl s_ocean_depths)), (q_books_lows, .inl (cA 1, 6, .inl s_books_lows)), (q_books_highs, .inl (cA 1, 6, .inl s_books_highs)), (q_times, .inl (cA 5, 6, .inr (.inr (.inr (.inr (gro 6 r_times))))))] ++ grw 6 r_times (cA 1) 48 s_times

def f_X5_likeliestCell_7 (s_books_count : Int32) (s_ocean_fade : Int32) (s_books_tos : Nat → Int32) (s_books_froms : Nat → Int32) (s_books_cells : Nat → Int32) (s_ocean_depths : Nat → Int32) (s_books_lows : Nat → Int32) (s_books_highs : Nat → Int32) (s_times : Nat → Nat → Int32) : Nat → (Int32) → (Int32) → (Int32) → Option ((Int32))
  | 0, _, _, _ => none
  | k + 1, x1, x2, x3 =>
    pbr ((48 : Int32) ≤ x3)
      (some (x1))
      (pcl (f_X5_waysOf x3 s_books_count s_books_tos s_books_froms s_ocean_fade s_books_cells s_ocean_depths s_books_lows s_books_highs s_times) (fun r_2 => (
      pbr (r_2 ≤ x2)
        (plt (x3 + (1 : Int32) : Int32) (fun x3_5 => (
        (f_X5_likeliestCell_7 s_books_count s_ocean_fade s_books_tos s_books_froms s_books_cells s_ocean_depths s_books_lows s_books_highs s_times k) x1 x2 x3_5)))
        (plt (x3 + (1 : Int32) : Int32) (fun x3_6 => (
        (f_X5_likeliestCell_7 s_books_count s_ocean_fade s_books_tos s_books_froms s_books_cells s_ocean_depths s_books_lows s_books_highs s_times k) x3 r_2 x3_6))))))

set_option maxRecDepth 100000 in
set_option maxHeartbeats 4000000 in
theorem k_X5_likeliestCell_7 {p : Program} {l : Launch} {e : Env} {s : State} {m : MethodId} {args : Array Value} {below : List Frame} {meth : Method} {c : Code} {A : Nat → Prop} {D : va_G} {cA : Nat → ClassId} (C0 : MX p s m args meth c cX5_likeliestCell 5 wsX5_likeliestCell RX5 (some .int) D cA) (hA : ∀ q, s.heap.size ≤ q → A q) {a0 : Nat} {q_books : Nat} {q_ocean : Nat} {q_books_tos : Nat} {q_books_froms : Nat} {q_books_cells : Nat} {q_ocean_depths : Nat} {q_books_lows : Nat} {q_books_highs : Nat} {q_times : Nat} {q_ocean_figures : Nat} {q_ocean_times : Nat} {r_times : Nat → Nat} {s_books_count : Int32} {s_ocean_pace : Int32} {s_ocean_fade : Int32} {s_books_tos : Nat → Int32} {s_books_froms : Nat → Int32} {s_books_cells : Nat → Int32} {s_ocean_depths : Nat → Int32} {s_books_lows : Nat → Int32} {s_books_highs : Nat → Int32} {s_times : Nat → Nat → Int32} {o_r : Int32} : ∀ (k : Nat) (x1 : Int32) (x2 : Int32) (x3 : Int32), f_X5_likeliestCell_7 s_books_count s_ocean_fade s_books_tos s_books_froms s_books_cells s_ocean_depths s_books_lows s_books_highs s_times k x1 x2 x3 = some o_r → ∀ (H : Heap) (locs : List Loc), va_P D vwCl (w_X5_likeliestCell a0 q_books q_ocean q_books_tos q_books_froms q_books_cells q_ocean_depths q_books_lows q_books_highs q_times q_ocean_figures q_ocean_times r_times cA s_books_count s_ocean_pace s_ocean_fade s_books_tos s_books_froms s_books_cells s_ocean_depths s_books_lows s_books_highs s_times) H → va_D A (w_X5_likeliestCell a0 q_books q_ocean q_books_tos q_books_froms q_books_cells q_ocean_depths q_books_lows q_books_highs q_times q_ocean_figures q_ocean_times r_times cA s_books_count s_ocean_pace s_ocean_fade s_books_tos s_books_froms s_books_cells s_ocean_depths s_books_lows s_books_highs s_times) → va_S A s.heap H locs → ∀ ls : Array Slot, lv_has ls 5 [(0, .ref a0), (1, .int x1), (2, .int x2), (3, .int x3)] → W p l e rm_X5_likeliestCell s m args below meth c H locs 0 0 (MQ below (CQ D (some (.int o_r)) (w_X5_likeliestCell a0 q_books q_ocean q_books_tos q_books_froms q_books_cells q_ocean_depths q_books_lows q_books_highs q_times q_ocean_figures q_ocean_times r_times cA s_books_count s_ocean_pace s_ocean_fade s_books_tos s_books_froms s_books_cells s_ocean_depths s_books_lows s_books_highs s_times) A) args s 0 0 A) (F0 m 7 ls []) := by
  obtain ⟨hx, hb, hml, hown, hts, hr, hlocks, hX⟩ := C0
  have hK := hX.1
  have hN := hX.2
  intro k
  induction k with
  | zero =>
    intro x1 x2 x3 hf
    cases hf
  | succ k ih =>
    intro x1 x2 x3 hf H locs hP hD hS ls hl
    rw [f_X5_likeliestCell_7] at hf
    refine lv_iload_n hx hb dX5_likeliestCell_7 rfl (lv_at hl 3 rfl) ?_
    refine lv_bipush (v := (48 : Int32)) hx hb dX5_likeliestCell_8 (by decide) ?_
    refine lv_icmp_ge (tgt := 37) hx hb dX5_likeliestCell_10 (by decide) (fun c_1 => ?_) (fun c_1 => ?_)
    · have hf := pbr_t c_1 hf
      refine lv_iload_n hx hb dX5_likeliestCell_37 rfl (lv_at hl 1 rfl) ?_
      obtain rfl := pe1 hf
      exact m_iret hx hb hr hlocks hP hS dX5_likeliestCell_38
    have hf := pbr_f c_1 hf
    refine lv_aload_n hx hb dX5_likeliestCell_13 rfl (lv_at hl 0 rfl) ?_
    refine lv_iload_n hx hb dX5_likeliestCell_14 rfl (lv_at hl 3 rfl) ?_
    obtain ⟨r_2, hc_3, hf⟩ := pcl_e hf
    refine m_callV2 (As := [.int x3]) (rest := []) ⟨hx, hb, hml, hown, hts⟩ hX (ct_X5_waysOf l D cA x3 a0 q_books q_books_tos q_books_froms q_ocean q_books_cells q_ocean_depths q_books_lows q_books_highs q_times q_ocean_figures q_ocean_times r_times s_books_count s_books_tos s_books_froms s_ocean_pace s_ocean_fade s_books_cells s_ocean_depths s_books_lows s_books_highs s_times r_2 hc_3) (cwV 1 hts gX5_likeliestCell_X5_waysOf rfl rfl rfl (by decide +kernel) ⟨Nat.le_of_ble_eq_true rfl, Nat.le_of_ble_eq_true rfl⟩) hP hD hS hA [0, 1, 3, 4, 2, 5, 6, 7, 8, 9, 10, 11, 12, 13, 14, 15] [] 16 (by decide) rfl rfl (WS' := (w_X5_likeliestCell a0 q_books q_ocean q_books_tos q_books_froms q_books_cells q_ocean_depths q_books_lows q_books_highs q_times q_ocean_figures q_ocean_times r_times cA s_books_count s_ocean_pace s_ocean_fade s_books_tos s_books_froms s_books_cells s_ocean_depths s_books_lows s_books_highs s_times)) (WR := []) rfl rfl rfl rfl (by decide) (by decide) 0 5 rfl rfl rfl hl.1 rfl (st' := [.int r_2]) rfl (Nat.le_of_ble_eq_true rfl) ⟨Nat.zero_le _, Nat.zero_le _⟩ dX5_likeliestCell_15 (fun H locs hP hD hS => ?_)
    refine lv_istore (lv' := [(4, .int r_2), (0, .ref a0), (1, .int x1), (2, .int x2), (3, .int x3)]) hx hb dX5_likeliestCell_18 hl (by decide) rfl (fun ls hl => ?_)
    refine lv_iload hx hb dX5_likeliestCell_20 (lv_at hl 0 rfl) ?_
    refine lv_iload_n hx hb dX5_likeliestCell_22 rfl (lv_at hl 3 rfl) ?_
    refine lv_icmp_le (tgt := 31) hx hb dX5_likeliestCell_23 (by decide) (fun c_4 => ?_) (fun c_4 => ?_)
    · have hf := pbr_t c_4 hf
      obtain ⟨x3_5, ex3_5⟩ : ∃ z : Int32, z = x3 + (1 : Int32) := ⟨_, rfl⟩
      have hf := plt_e ex3_5 hf
      refine lv_iinc (v := x3_5) (lv' := [(3, .int x3_5), (4, .int r_2), (0, .ref a0), (1, .int x1), (2, .int x2)]) hx hb dX5_likeliestCell_31 hl (k := 4) rfl (by rw [ex3_5]; rfl) (by decide) rfl (fun ls hl => ?_)
      refine lv_goto (tgt := 7) hx hb dX5_likeliestCell_34 (by decide) ?_
      exact ih x1 x2 x3_5 hf _ _ hP hD hS ls (lv_sub hl [2, 3, 4, 0] rfl)
    have hf := pbr_f c_4 hf
    refine lv_iload hx hb dX5_likeliestCell_26 (lv_at hl 0 rfl) ?_
    refine lv_istore_n (lv' := [(2, .int r_2), (4, .int r_2), (0, .ref a0), (1, .int x1), (3, .int x3)]) hx hb dX5_likeliestCell_28 rfl hl (by decide) rfl (fun ls hl => ?_)
    refine lv_iload_n hx hb dX5_likeliestCell_29 rfl (lv_at hl 4 rfl) ?_
    refine lv_istore_n (lv' := [(1, .int x3), (2, .int r_2), (4, .int r_2), (0, .ref a0), (3, .int x3)]) hx hb dX5_likeliestCell_30 rfl hl (by decide) rfl (fun ls hl => ?_)
    obtain ⟨x3_6, ex3_6⟩ : ∃ z : Int32, z = x3 + (1 : Int32) := ⟨_, rfl⟩
    have hf := plt_e ex3_6 hf
    refine lv_iinc (v := x3_6) (lv' := [(3, .int x3_6), (1, .int x3), (2, .int r_2), (4, .int r_2), (0, .ref a0)]) hx hb dX5_likeliestCell_31 hl (k := 4) rfl (by rw [ex3_6]; rfl) (by decide) rfl (fun ls hl => ?_)
    refine lv_goto (tgt := 7) hx hb dX5_likeliestCell_34 (by decide) ?_
    exact ih x3 r_2 x3_6 hf _ _ hP hD hS ls (lv_sub hl [4, 1, 2, 0] rfl)

def f_X5_likeliestCell (s_books_count : Int32) (s_ocean_fade : Int32) (s_books_tos : Nat → Int32) (s_books_froms : Nat → Int32) (s_books_cells : Nat → Int32) (s_ocean_depths : Nat → Int32) (s_books_lows : Nat → Int32) (s_books_highs : Nat → Int32) (s_times : Nat → Nat → Int32) : Option ((Int32)) :=
  f_X5_likeliestCell_7 s_books_count s_ocean_fade s_books_tos s_books_froms s_books_cells s_ocean_depths s_books_lows s_books_highs s_times FU (-9 : Int32) (0 : Int32) (0 : Int32)

set_option maxRecDepth 100000 in
set_option maxHeartbeats 4000000 in
theorem ct_X5_likeliestCell (l : Launch) (D : va_G) (cA : Nat → ClassId) (a0 : Nat) (q_books : Nat) (q_ocean : Nat) (q_books_tos : Nat) (q_books_froms : Nat) (q_books_cells : Nat) (q_ocean_depths : Nat) (q_books_lows : Nat) (q_books_highs : Nat) (q_times : Nat) (q_ocean_figures : Nat) (q_ocean_times : Nat) (r_times : Nat → Nat) (s_books_count : Int32) (s_ocean_pace : Int32) (s_ocean_fade : Int32) (s_books_tos : Nat → Int32) (s_books_froms : Nat → Int32) (s_books_cells : Nat → Int32) (s_ocean_depths : Nat → Int32) (s_books_lows : Nat → Int32) (s_books_highs : Nat → Int32) (s_times : Nat → Nat → Int32) (o_r : Int32) (hf : f_X5_likeliestCell s_books_count s_ocean_fade s_books_tos s_books_froms s_books_cells s_ocean_depths s_books_lows s_books_highs s_times = some o_r) : CT l yX5_likeliestCell wsX5_likeliestCell rm_X5_likeliestCell D cA [.ref a0] (w_X5_likeliestCell a0 q_books q_ocean q_books_tos q_books_froms q_books_cells q_ocean_depths q_books_lows q_books_highs q_times q_ocean_figures q_ocean_times r_times cA s_books_count s_ocean_pace s_ocean_fade s_books_tos s_books_froms s_books_cells s_ocean_depths s_books_lows s_books_highs s_times) (w_X5_likeliestCell a0 q_books q_ocean q_books_tos q_books_froms q_books_cells q_ocean_depths q_books_lows q_books_highs q_times q_ocean_figures q_ocean_times r_times cA s_books_count s_ocean_pace s_ocean_fade s_books_tos s_books_froms s_books_cells s_ocean_depths s_books_lows s_books_highs s_times) (some (.int o_r)) := by
  refine CT.ofW (cc := cX5_likeliestCell) (maxL := 5) (ret := (some .int)) (by decide +kernel) rfl (Nat.le_of_ble_eq_true rfl) ?_
  intro p e s m below meth c A C0 hA hP hD ls hl
  have C0 : MX p s m [.ref a0].toArray meth c cX5_likeliestCell 5 wsX5_likeliestCell RX5 (some .int) D cA := C0
  have hl : lv_has ls 5 [(0, .ref a0)] := hl
  obtain ⟨hx, hb, hml, hown, hts, hr, hlocks, hX⟩ := id C0
  have hK := hX.1
  have hN := hX.2
  have hS : va_S A s.heap s.heap [] := va_S.rf
  unfold f_X5_likeliestCell at hf
  refine lv_bipush (v := (-9 : Int32)) hx hb dX5_likeliestCell_0 (by decide) ?_
  refine lv_istore_n (lv' := [(1, .int (-9 : Int32)), (0, .ref a0)]) hx hb dX5_likeliestCell_2 rfl hl (by decide) rfl (fun ls hl => ?_)
  refine lv_iconst (v := (0 : Int32)) hx hb dX5_likeliestCell_3 (by decide) ?_
  refine lv_istore_n (lv' := [(2, .int (0 : Int32)), (1, .int (-9 : Int32)), (0, .ref a0)]) hx hb dX5_likeliestCell_4 rfl hl (by decide) rfl (fun ls hl => ?_)
  refine lv_iconst (v := (0 : Int32)) hx hb dX5_likeliestCell_5 (by decide) ?_
  refine lv_istore_n (lv' := [(3, .int (0 : Int32)), (2, .int (0 : Int32)), (1, .int (-9 : Int32)), (0, .ref a0)]) hx hb dX5_likeliestCell_6 rfl hl (by decide) rfl (fun ls hl => ?_)
  exact k_X5_likeliestCell_7 C0 hA FU (-9 : Int32) (0 : Int32) (0 : Int32) hf _ _ hP hD hS ls (lv_sub hl [3, 2, 1, 0] rfl)

/-! ===== OrphanWave$Search.leastSize(I)I ===== -/
abbrev rm_X5_leastSize : Room := { frames := 2, cells := 0, slots := 0, locals := 49 }
abbrev wx_X5_leastSize (a0 : Nat) (q_books : Nat) (q_ocean : Nat) (q_books_cells : Nat) (q_ocean_depths : Nat) (q_books_lows : Nat) (q_books_highs : Nat) (q_times : Nat) (q_books_froms : Nat) (q_books_tos : Nat) (q_ocean_figures : Nat) (q_ocean_times : Nat) (r_times : Nat → Nat) (cA : Nat → ClassId) (s_books_count : Int32) (s_ocean_pace : Int32) (s_ocean_fade : Int32) (s_books_cells : Nat → Int32) (s_ocean_depths : Nat → Int32) (s_books_lows : Nat → Int32) (s_books_highs : Nat → Int32) (s_times : Nat → Nat → Int32) : va_W := [(a0, .inr (5, [.ref q_ocean, .ref q_books, .ref q_times])), (q_books, .inr (0, [.ref q_books_cells, .ref q_books_froms, .ref q_books_tos, .ref q_books_lows, .ref q_books_highs, .int s_books_count])), (q_ocean, .inr (4, [.ref q_ocean_depths, .ref q_ocean_figures, .ref q_ocean_times, .int s_ocean_pace, .int s_ocean_fade])), (q_books_cells, .inl (cA 1, 6, .inl s_books_cells)), (q_ocean_depths, .inl (cA 1, 48, .inl s_ocean_depths)), (q_books_lows, .inl (cA 1, 6, .inl s_books_lows)), (q_books_highs, .inl (cA 1, 6, .inl s_books_highs)), (q_times, .inl (cA 5, 6, .inr (.inr (.inr (.inr (gro 6 r_times))))))]
abbrev w_X5_leastSize (a0 : Nat) (q_books : Nat) (q_ocean : Nat) (q_books_cells : Nat) (q_ocean_depths : Nat) (q_books_lows : Nat) (q_books_highs : Nat) (q_times : Nat) (q_books_froms : Nat) (q_books_tos : Nat) (q_ocean_figures : Nat) (q_ocean_times : Nat) (r_times : Nat → Nat) (cA : Nat → ClassId) (s_books_count : Int32) (s_ocean_pace : Int32) (s_ocean_fade : Int32) (s_books_cells : Nat → Int32) (s_ocean_depths : Nat → Int32) (s_books_lows : Nat → Int32) (s_books_highs : Nat → Int32) (s_times : Nat → Nat → Int32) : va_W := [(a0, .inr (5, [.ref q_ocean, .ref q_books, .ref q_times])), (q_books, .inr (0, [.ref q_books_cells, .ref q_books_froms, .ref q_books_tos, .ref q_books_lows, .ref q_books_highs, .int s_books_count])), (q_ocean, .inr (4, [.ref q_ocean_depths, .ref q_ocean_figures, .ref q_ocean_times, .int s_ocean_pace, .int s_ocean_fade])), (q_books_cells, .inl (cA 1, 6, .inl s_books_cells)), (q_ocean_depths, .inl (cA 1, 48, .inl s_ocean_depths)), (q_books_lows, .inl (cA 1, 6, .inl s_books_lows)), (q_books_highs, .inl (cA 1, 6, .inl s_books_highs)), (q_times, .inl (cA 5, 6, .inr (.inr (.inr (.inr (gro 6 r_times))))))] ++ grw 6 r_times (cA 1) 48 s_times
theorem hw_X5_leastSize_c66 : Cond.constant RX5 66 (-1000000) ∈ wsX5_leastSize := by decide +kernel

def f_X5_leastSize_2 (s_books_count : Int32) (s_ocean_fade : Int32) (s_books_cells : Nat → Int32) (s_ocean_depths : Nat → Int32) (s_books_lows : Nat → Int32) (s_books_highs : Nat → Int32) (s_times : Nat → Nat → Int32) (x1 : Int32) : Nat → (Int32) → Option ((Int32))
  | 0, _ => none
  | k + 1, x2 =>
    pbr ((99 : Int32) < x2)
      (some ((-1000000 : Int32)))
      (pcl (f_X5_heightsFit x1 x2 s_books_count s_books_cells s_ocean_fade s_ocean_depths s_books_lows s_books_highs s_times) (fun r_2 => (
      pbr (r_2 = 0)
        (plt (x2 + (1 : Int32) : Int32) (fun x2_5 => (
        (f_X5_leastSize_2 s_books_count s_ocean_fade s_books_cells s_ocean_depths s_books_lows s_books_highs s_times x1 k) x2_5)))
        (some (x2)))))

set_option maxRecDepth 100000 in
set_option maxHeartbeats 4000000 in
theorem k_X5_leastSize_2 {p : Program} {l : Launch} {e : Env} {s : State} {m : MethodId} {args : Array Value} {below : List Frame} {meth : Method} {c : Code} {A : Nat → Prop} {D : va_G} {cA : Nat → ClassId} (C0 : MX p s m args meth c cX5_leastSize 3 wsX5_leastSize RX5 (some .int) D cA) (hA : ∀ q, s.heap.size ≤ q → A q) {a0 : Nat} {q_books : Nat} {q_ocean : Nat} {q_books_cells : Nat} {q_ocean_depths : Nat} {q_books_lows : Nat} {q_books_highs : Nat} {q_times : Nat} {q_books_froms : Nat} {q_books_tos : Nat} {q_ocean_figures : Nat} {q_ocean_times : Nat} {r_times : Nat → Nat} {s_books_count : Int32} {s_ocean_pace : Int32} {s_ocean_fade : Int32} {s_books_cells : Nat → Int32} {s_ocean_depths : Nat → Int32} {s_books_lows : Nat → Int32} {s_books_highs : Nat → Int32} {s_times : Nat → Nat → Int32} {x1 : Int32} {o_r : Int32} : ∀ (k : Nat) (x2 : Int32), f_X5_leastSize_2 s_books_count s_ocean_fade s_books_cells s_ocean_depths s_books_lows s_books_highs s_times x1 k x2 = some o_r → ∀ (H : Heap) (locs : List Loc), va_P D vwCl (w_X5_leastSize a0 q_books q_ocean q_books_cells q_ocean_depths q_books_lows q_books_highs q_times q_books_froms q_books_tos q_ocean_figures q_ocean_times r_times cA s_books_count s_ocean_pace s_ocean_fade s_books_cells s_ocean_depths s_books_lows s_books_highs s_times) H → va_D A (w_X5_leastSize a0 q_books q_ocean q_books_cells q_ocean_depths q_books_lows q_books_highs q_times q_books_froms q_books_tos q_ocean_figures q_ocean_times r_times cA s_books_count s_ocean_pace s_ocean_fade s_books_cells s_ocean_depths s_books_lows s_books_highs s_times) → va_S A s.heap H locs → ∀ ls : Array Slot, lv_has ls 3 [(0, .ref a0), (1, .int x1), (2, .int x2)] → W p l e rm_X5_leastSize s m args below meth c H locs 0 0 (MQ below (CQ D (some (.int o_r)) (w_X5_leastSize a0 q_books q_ocean q_books_cells q_ocean_depths q_books_lows q_books_highs q_times q_books_froms q_books_tos q_ocean_figures q_ocean_times r_times cA s_books_count s_ocean_pace s_ocean_fade s_books_cells s_ocean_depths s_books_lows s_books_highs s_times) A) args s 0 0 A) (F0 m 2 ls []) := by
  obtain ⟨hx, hb, hml, hown, hts, hr, hlocks, hX⟩ := C0
  have hK := hX.1
  have hN := hX.2
  intro k
  induction k with
  | zero =>
    intro x2 hf
    cases hf
  | succ k ih =>
    intro x2 hf H locs hP hD hS ls hl
    rw [f_X5_leastSize_2] at hf
    refine lv_iload_n hx hb dX5_leastSize_2 rfl (lv_at hl 2 rfl) ?_
    refine lv_bipush (v := (99 : Int32)) hx hb dX5_leastSize_3 (by decide) ?_
    refine lv_icmp_gt (tgt := 25) hx hb dX5_leastSize_5 (by decide) (fun c_1 => ?_) (fun c_1 => ?_)
    · have hf := pbr_t c_1 hf
      refine lv_ldc (v := (-1000000 : Int32)) hx hb hown (hts _ hw_X5_leastSize_c66) dX5_leastSize_25 ?_
      obtain rfl := pe1 hf
      exact m_iret hx hb hr hlocks hP hS dX5_leastSize_27
    have hf := pbr_f c_1 hf
    refine lv_aload_n hx hb dX5_leastSize_8 rfl (lv_at hl 0 rfl) ?_
    refine lv_iload_n hx hb dX5_leastSize_9 rfl (lv_at hl 1 rfl) ?_
    refine lv_iload_n hx hb dX5_leastSize_10 rfl (lv_at hl 2 rfl) ?_
    obtain ⟨r_2, hc_3, hf⟩ := pcl_e hf
    refine m_callV2 (As := [.int x1, .int x2]) (rest := []) ⟨hx, hb, hml, hown, hts⟩ hX (ct_X5_heightsFit l D cA x1 x2 a0 q_books q_books_cells q_ocean q_ocean_depths q_books_lows q_books_highs q_times q_books_froms q_books_tos q_ocean_figures q_ocean_times r_times s_books_count s_books_cells s_ocean_pace s_ocean_fade s_ocean_depths s_books_lows s_books_highs s_times r_2 hc_3) (cwV 2 hts gX5_leastSize_X5_heightsFit rfl rfl rfl (by decide +kernel) ⟨Nat.le_of_ble_eq_true rfl, Nat.le_of_ble_eq_true rfl⟩) hP hD hS hA [0, 1, 3, 2, 4, 5, 6, 7, 8, 9, 10, 11, 12, 13] [] 14 (by decide) rfl rfl (WS' := (w_X5_leastSize a0 q_books q_ocean q_books_cells q_ocean_depths q_books_lows q_books_highs q_times q_books_froms q_books_tos q_ocean_figures q_ocean_times r_times cA s_books_count s_ocean_pace s_ocean_fade s_books_cells s_ocean_depths s_books_lows s_books_highs s_times)) (WR := []) rfl rfl rfl rfl (by decide) (by decide) 0 5 rfl rfl rfl hl.1 rfl (st' := [.int r_2]) rfl (Nat.le_of_ble_eq_true rfl) ⟨Nat.zero_le _, Nat.zero_le _⟩ dX5_leastSize_11 (fun H locs hP hD hS => ?_)
    refine lv_if_eq (tgt := 19) hx hb dX5_leastSize_14 (by decide) (fun c_4 => ?_) (fun c_4 => ?_)
    · have hf := pbr_t c_4 hf
      obtain ⟨x2_5, ex2_5⟩ : ∃ z : Int32, z = x2 + (1 : Int32) := ⟨_, rfl⟩
      have hf := plt_e ex2_5 hf
      refine lv_iinc (v := x2_5) (lv' := [(2, .int x2_5), (0, .ref a0), (1, .int x1)]) hx hb dX5_leastSize_19 hl (k := 2) rfl (by rw [ex2_5]; rfl) (by decide) rfl (fun ls hl => ?_)
      refine lv_goto (tgt := 2) hx hb dX5_leastSize_22 (by decide) ?_
      exact ih x2_5 hf _ _ hP hD hS ls (lv_sub hl [1, 2, 0] rfl)
    have hf := pbr_f c_4 hf
    refine lv_iload_n hx hb dX5_leastSize_17 rfl (lv_at hl 2 rfl) ?_
    obtain rfl := pe1 hf
    exact m_iret hx hb hr hlocks hP hS dX5_leastSize_18

def f_X5_leastSize (x1 : Int32) (s_books_count : Int32) (s_ocean_fade : Int32) (s_books_cells : Nat → Int32) (s_ocean_depths : Nat → Int32) (s_books_lows : Nat → Int32) (s_books_highs : Nat → Int32) (s_times : Nat → Nat → Int32) : Option ((Int32)) :=
  f_X5_leastSize_2 s_books_count s_ocean_fade s_books_cells s_ocean_depths s_books_lows s_books_highs s_times x1 FU (1 : Int32)

set_option maxRecDepth 100000 in
set_option maxHeartbeats 4000000 in
theorem ct_X5_leastSize (l : Launch) (D : va_G) (cA : Nat → ClassId) (x1 : Int32) (a0 : Nat) (q_books : Nat) (q_ocean : Nat) (q_books_cells : Nat) (q_ocean_depths : Nat) (q_books_lows : Nat) (q_books_highs : Nat) (q_times : Nat) (q_books_froms : Nat) (q_books_tos : Nat) (q_ocean_figures : Nat) (q_ocean_times : Nat) (r_times : Nat → Nat) (s_books_count : Int32) (s_ocean_pace : Int32) (s_ocean_fade : Int32) (s_books_cells : Nat → Int32) (s_ocean_depths : Nat → Int32) (s_books_lows : Nat → Int32) (s_books_highs : Nat → Int32) (s_times : Nat → Nat → Int32) (o_r : Int32) (hf : f_X5_leastSize x1 s_books_count s_ocean_fade s_books_cells s_ocean_depths s_books_lows s_books_highs s_times = some o_r) : CT l yX5_leastSize wsX5_leastSize rm_X5_leastSize D cA [.ref a0, .int x1] (w_X5_leastSize a0 q_books q_ocean q_books_cells q_ocean_depths q_books_lows q_books_highs q_times q_books_froms q_books_tos q_ocean_figures q_ocean_times r_times cA s_books_count s_ocean_pace s_ocean_fade s_books_cells s_ocean_depths s_books_lows s_books_highs s_times) (w_X5_leastSize a0 q_books q_ocean q_books_cells q_ocean_depths q_books_lows q_books_highs q_times q_books_froms q_books_tos q_ocean_figures q_ocean_times r_times cA s_books_count s_ocean_pace s_ocean_fade s_books_cells s_ocean_depths s_books_lows s_books_highs s_times) (some (.int o_r)) := by
  refine CT.ofW (cc := cX5_leastSize) (maxL := 3) (ret := (some .int)) (by decide +kernel) rfl (Nat.le_of_ble_eq_true rfl) ?_
  intro p e s m below meth c A C0 hA hP hD ls hl
  have C0 : MX p s m [.ref a0, .int x1].toArray meth c cX5_leastSize 3 wsX5_leastSize RX5 (some .int) D cA := C0
  have hl : lv_has ls 3 [(0, .ref a0), (1, .int x1)] := hl
  obtain ⟨hx, hb, hml, hown, hts, hr, hlocks, hX⟩ := id C0
  have hK := hX.1
  have hN := hX.2
  have hS : va_S A s.heap s.heap [] := va_S.rf
  unfold f_X5_leastSize at hf
  refine lv_iconst (v := (1 : Int32)) hx hb dX5_leastSize_0 (by decide) ?_
  refine lv_istore_n (lv' := [(2, .int (1 : Int32)), (0, .ref a0), (1, .int x1)]) hx hb dX5_leastSize_1 rfl hl (by decide) rfl (fun ls hl => ?_)
  exact k_X5_leastSize_2 C0 hA FU (1 : Int32) hf _ _ hP hD hS ls (lv_sub hl [1, 2, 0] rfl)

/-! ===== OrphanWave$Search.greatestSize(I)I ===== -/
abbrev rm_X5_greatestSize : Room := { frames := 2, cells := 0, slots := 0, locals := 49 }
abbrev wx_X5_greatestSize (a0 : Nat) (q_books : Nat) (q_ocean : Nat) (q_books_cells : Nat) (q_ocean_depths : Nat) (q_books_lows : Nat) (q_books_highs : Nat) (q_times : Nat) (q_books_froms : Nat) (q_books_tos : Nat) (q_ocean_figures : Nat) (q_ocean_times : Nat) (r_times : Nat → Nat) (cA : Nat → ClassId) (s_books_count : Int32) (s_ocean_pace : Int32) (s_ocean_fade : Int32) (s_books_cells : Nat → Int32) (s_ocean_depths : Nat → Int32) (s_books_lows : Nat → Int32) (s_books_highs : Nat → Int32) (s_times : Nat → Nat → Int32) : va_W := [(a0, .inr (5, [.ref q_ocean, .ref q_books, .ref q_times])), (q_books, .inr (0, [.ref q_books_cells, .ref q_books_froms, .ref q_books_tos, .ref q_books_lows, .ref q_books_highs, .int s_books_count])), (q_ocean, .inr (4, [.ref q_ocean_depths, .ref q_ocean_figures, .ref q_ocean_times, .int s_ocean_pace, .int s_ocean_fade])), (q_books_cells, .inl (cA 1, 6, .inl s_books_cells)), (q_ocean_depths, .inl (cA 1, 48, .inl s_ocean_depths)), (q_books_lows, .inl (cA 1, 6, .inl s_books_lows)), (q_books_highs, .inl (cA 1, 6, .inl s_books_highs)), (q_times, .inl (cA 5, 6, .inr (.inr (.inr (.inr (gro 6 r_times))))))]
abbrev w_X5_greatestSize (a0 : Nat) (q_books : Nat) (q_ocean : Nat) (q_books_cells : Nat) (q_ocean_depths : Nat) (q_books_lows : Nat) (q_books_highs : Nat) (q_times : Nat) (q_books_froms : Nat) (q_books_tos : Nat) (q_ocean_figures : Nat) (q_ocean_times : Nat) (r_times : Nat → Nat) (cA : Nat → ClassId) (s_books_count : Int32) (s_ocean_pace : Int32) (s_ocean_fade : Int32) (s_books_cells : Nat → Int32) (s_ocean_depths : Nat → Int32) (s_books_lows : Nat → Int32) (s_books_highs : Nat → Int32) (s_times : Nat → Nat → Int32) : va_W := [(a0, .inr (5, [.ref q_ocean, .ref q_books, .ref q_times])), (q_books, .inr (0, [.ref q_books_cells, .ref q_books_froms, .ref q_books_tos, .ref q_books_lows, .ref q_books_highs, .int s_books_count])), (q_ocean, .inr (4, [.ref q_ocean_depths, .ref q_ocean_figures, .ref q_ocean_times, .int s_ocean_pace, .int s_ocean_fade])), (q_books_cells, .inl (cA 1, 6, .inl s_books_cells)), (q_ocean_depths, .inl (cA 1, 48, .inl s_ocean_depths)), (q_books_lows, .inl (cA 1, 6, .inl s_books_lows)), (q_books_highs, .inl (cA 1, 6, .inl s_books_highs)), (q_times, .inl (cA 5, 6, .inr (.inr (.inr (.inr (gro 6 r_times))))))] ++ grw 6 r_times (cA 1) 48 s_times
theorem hw_X5_greatestSize_c66 : Cond.constant RX5 66 (-1000000) ∈ wsX5_greatestSize := by decide +kernel

def f_X5_greatestSize_3 (s_books_count : Int32) (s_ocean_fade : Int32) (s_books_cells : Nat → Int32) (s_ocean_depths : Nat → Int32) (s_books_lows : Nat → Int32) (s_books_highs : Nat → Int32) (s_times : Nat → Nat → Int32) (x1 : Int32) : Nat → (Int32) → Option ((Int32))
  | 0, _ => none
  | k + 1, x2 =>
    pbr (x2 < (1 : Int32))
      (some ((-1000000 : Int32)))
      (pcl (f_X5_heightsFit x1 x2 s_books_count s_books_cells s_ocean_fade s_ocean_depths s_books_lows s_books_highs s_times) (fun r_2 => (
      pbr (r_2 = 0)
        (plt (x2 + (-1 : Int32) : Int32) (fun x2_5 => (
        (f_X5_greatestSize_3 s_books_count s_ocean_fade s_books_cells s_ocean_depths s_books_lows s_books_highs s_times x1 k) x2_5)))
        (some (x2)))))

set_option maxRecDepth 100000 in
set_option maxHeartbeats 4000000 in
theorem k_X5_greatestSize_3 {p : Program} {l : Launch} {e : Env} {s : State} {m : MethodId} {args : Array Value} {below : List Frame} {meth : Method} {c : Code} {A : Nat → Prop} {D : va_G} {cA : Nat → ClassId} (C0 : MX p s m args meth c cX5_greatestSize 3 wsX5_greatestSize RX5 (some .int) D cA) (hA : ∀ q, s.heap.size ≤ q → A q) {a0 : Nat} {q_books : Nat} {q_ocean : Nat} {q_books_cells : Nat} {q_ocean_depths : Nat} {q_books_lows : Nat} {q_books_highs : Nat} {q_times : Nat} {q_books_froms : Nat} {q_books_tos : Nat} {q_ocean_figures : Nat} {q_ocean_times : Nat} {r_times : Nat → Nat} {s_books_count : Int32} {s_ocean_pace : Int32} {s_ocean_fade : Int32} {s_books_cells : Nat → Int32} {s_ocean_depths : Nat → Int32} {s_books_lows : Nat → Int32} {s_books_highs : Nat → Int32} {s_times : Nat → Nat → Int32} {x1 : Int32} {o_r : Int32} : ∀ (k : Nat) (x2 : Int32), f_X5_greatestSize_3 s_books_count s_ocean_fade s_books_cells s_ocean_depths s_books_lows s_books_highs s_times x1 k x2 = some o_r → ∀ (H : Heap) (locs : List Loc), va_P D vwCl (w_X5_greatestSize a0 q_books q_ocean q_books_cells q_ocean_depths q_books_lows q_books_highs q_times q_books_froms q_books_tos q_ocean_figures q_ocean_times r_times cA s_books_count s_ocean_pace s_ocean_fade s_books_cells s_ocean_depths s_books_lows s_books_highs s_times) H → va_D A (w_X5_greatestSize a0 q_books q_ocean q_books_cells q_ocean_depths q_books_lows q_books_highs q_times q_books_froms q_books_tos q_ocean_figures q_ocean_times r_times cA s_books_count s_ocean_pace s_ocean_fade s_books_cells s_ocean_depths s_books_lows s_books_highs s_times) → va_S A s.heap H locs → ∀ ls : Array Slot, lv_has ls 3 [(0, .ref a0), (1, .int x1), (2, .int x2)] → W p l e rm_X5_greatestSize s m args below meth c H locs 0 0 (MQ below (CQ D (some (.int o_r)) (w_X5_greatestSize a0 q_books q_ocean q_books_cells q_ocean_depths q_books_lows q_books_highs q_times q_books_froms q_books_tos q_ocean_figures q_ocean_times r_times cA s_books_count s_ocean_pace s_ocean_fade s_books_cells s_ocean_depths s_books_lows s_books_highs s_times) A) args s 0 0 A) (F0 m 3 ls []) := by
  obtain ⟨hx, hb, hml, hown, hts, hr, hlocks, hX⟩ := C0
  have hK := hX.1
  have hN := hX.2
  intro k
  induction k with
  | zero =>
    intro x2 hf
    cases hf
  | succ k ih =>
    intro x2 hf H locs hP hD hS ls hl
    rw [f_X5_greatestSize_3] at hf
    refine lv_iload_n hx hb dX5_greatestSize_3 rfl (lv_at hl 2 rfl) ?_
    refine lv_iconst (v := (1 : Int32)) hx hb dX5_greatestSize_4 (by decide) ?_
    refine lv_icmp_lt (tgt := 25) hx hb dX5_greatestSize_5 (by decide) (fun c_1 => ?_) (fun c_1 => ?_)
    · have hf := pbr_t c_1 hf
      refine lv_ldc (v := (-1000000 : Int32)) hx hb hown (hts _ hw_X5_greatestSize_c66) dX5_greatestSize_25 ?_
      obtain rfl := pe1 hf
      exact m_iret hx hb hr hlocks hP hS dX5_greatestSize_27
    have hf := pbr_f c_1 hf
    refine lv_aload_n hx hb dX5_greatestSize_8 rfl (lv_at hl 0 rfl) ?_
    refine lv_iload_n hx hb dX5_greatestSize_9 rfl (lv_at hl 1 rfl) ?_
    refine lv_iload_n hx hb dX5_greatestSize_10 rfl (lv_at hl 2 rfl) ?_
    obtain ⟨r_2, hc_3, hf⟩ := pcl_e hf
    refine m_callV2 (As := [.int x1, .int x2]) (rest := []) ⟨hx, hb, hml, hown, hts⟩ hX (ct_X5_heightsFit l D cA x1 x2 a0 q_books q_books_cells q_ocean q_ocean_depths q_books_lows q_books_highs q_times q_books_froms q_books_tos q_ocean_figures q_ocean_times r_times s_books_count s_books_cells s_ocean_pace s_ocean_fade s_ocean_depths s_books_lows s_books_highs s_times r_2 hc_3) (cwV 2 hts gX5_greatestSize_X5_heightsFit rfl rfl rfl (by decide +kernel) ⟨Nat.le_of_ble_eq_true rfl, Nat.le_of_ble_eq_true rfl⟩) hP hD hS hA [0, 1, 3, 2, 4, 5, 6, 7, 8, 9, 10, 11, 12, 13] [] 14 (by decide) rfl rfl (WS' := (w_X5_greatestSize a0 q_books q_ocean q_books_cells q_ocean_depths q_books_lows q_books_highs q_times q_books_froms q_books_tos q_ocean_figures q_ocean_times r_times cA s_books_count s_ocean_pace s_ocean_fade s_books_cells s_ocean_depths s_books_lows s_books_highs s_times)) (WR := []) rfl rfl rfl rfl (by decide) (by decide) 0 5 rfl rfl rfl hl.1 rfl (st' := [.int r_2]) rfl (Nat.le_of_ble_eq_true rfl) ⟨Nat.zero_le _, Nat.zero_le _⟩ dX5_greatestSize_11 (fun H locs hP hD hS => ?_)
    refine lv_if_eq (tgt := 19) hx hb dX5_greatestSize_14 (by decide) (fun c_4 => ?_) (fun c_4 => ?_)
    · have hf := pbr_t c_4 hf
      obtain ⟨x2_5, ex2_5⟩ : ∃ z : Int32, z = x2 + (-1 : Int32) := ⟨_, rfl⟩
      have hf := plt_e ex2_5 hf
      refine lv_iinc (v := x2_5) (lv' := [(2, .int x2_5), (0, .ref a0), (1, .int x1)]) hx hb dX5_greatestSize_19 hl (k := 2) rfl (by rw [ex2_5]; rfl) (by decide) rfl (fun ls hl => ?_)
      refine lv_goto (tgt := 3) hx hb dX5_greatestSize_22 (by decide) ?_
      exact ih x2_5 hf _ _ hP hD hS ls (lv_sub hl [1, 2, 0] rfl)
    have hf := pbr_f c_4 hf
    refine lv_iload_n hx hb dX5_greatestSize_17 rfl (lv_at hl 2 rfl) ?_
    obtain rfl := pe1 hf
    exact m_iret hx hb hr hlocks hP hS dX5_greatestSize_18

def f_X5_greatestSize (x1 : Int32) (s_books_count : Int32) (s_ocean_fade : Int32) (s_books_cells : Nat → Int32) (s_ocean_depths : Nat → Int32) (s_books_lows : Nat → Int32) (s_books_highs : Nat → Int32) (s_times : Nat → Nat → Int32) : Option ((Int32)) :=
  f_X5_greatestSize_3 s_books_count s_ocean_fade s_books_cells s_ocean_depths s_books_lows s_books_highs s_times x1 FU (99 : Int32)

set_option maxRecDepth 100000 in
set_option maxHeartbeats 4000000 in
theorem ct_X5_greatestSize (l : Launch) (D : va_G) (cA : Nat → ClassId) (x1 : Int32) (a0 : Nat) (q_books : Nat) (q_ocean : Nat) (q_books_cells : Nat) (q_ocean_depths : Nat) (q_books_lows : Nat) (q_books_highs : Nat) (q_times : Nat) (q_books_froms : Nat) (q_books_tos : Nat) (q_ocean_figures : Nat) (q_ocean_times : Nat) (r_times : Nat → Nat) (s_books_count : Int32) (s_ocean_pace : Int32) (s_ocean_fade : Int32) (s_books_cells : Nat → Int32) (s_ocean_depths : Nat → Int32) (s_books_lows : Nat → Int32) (s_books_highs : Nat → Int32) (s_times : Nat → Nat → Int32) (o_r : Int32) (hf : f_X5_greatestSize x1 s_books_count s_ocean_fade s_books_cells s_ocean_depths s_books_lows s_books_highs s_times = some o_r) : CT l yX5_greatestSize wsX5_greatestSize rm_X5_greatestSize D cA [.ref a0, .int x1] (w_X5_greatestSize a0 q_books q_ocean q_books_cells q_ocean_depths q_books_lows q_books_highs q_times q_books_froms q_books_tos q_ocean_figures q_ocean_times r_times cA s_books_count s_ocean_pace s_ocean_fade s_books_cells s_ocean_depths s_books_lows s_books_highs s_times) (w_X5_greatestSize a0 q_books q_ocean q_books_cells q_ocean_depths q_books_lows q_books_highs q_times q_books_froms q_books_tos q_ocean_figures q_ocean_times r_times cA s_books_count s_ocean_pace s_ocean_fade s_books_cells s_ocean_depths s_books_lows s_books_highs s_times) (some (.int o_r)) := by
  refine CT.ofW (cc := cX5_greatestSize) (maxL := 3) (ret := (some .int)) (by decide +kernel) rfl (Nat.le_of_ble_eq_true rfl) ?_
  intro p e s m below meth c A C0 hA hP hD ls hl
  have C0 : MX p s m [.ref a0, .int x1].toArray meth c cX5_greatestSize 3 wsX5_greatestSize RX5 (some .int) D cA := C0
  have hl : lv_has ls 3 [(0, .ref a0), (1, .int x1)] := hl
  obtain ⟨hx, hb, hml, hown, hts, hr, hlocks, hX⟩ := id C0
  have hK := hX.1
  have hN := hX.2
  have hS : va_S A s.heap s.heap [] := va_S.rf
  unfold f_X5_greatestSize at hf
  refine lv_bipush (v := (99 : Int32)) hx hb dX5_greatestSize_0 (by decide) ?_
  refine lv_istore_n (lv' := [(2, .int (99 : Int32)), (0, .ref a0), (1, .int x1)]) hx hb dX5_greatestSize_2 rfl hl (by decide) rfl (fun ls hl => ?_)
  exact k_X5_greatestSize_3 C0 hA FU (99 : Int32) hf _ _ hP hD hS ls (lv_sub hl [1, 2, 0] rfl)
