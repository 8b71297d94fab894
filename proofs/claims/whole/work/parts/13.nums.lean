/-! ===== OrphanWave.within(III)Z ===== -/
abbrev rm_X11_within : Room := { frames := 0, cells := 0, slots := 0, locals := 0 }
abbrev w_X11_within  (cA : Nat → ClassId)  : va_W := []

def f_X11_within (x0 : Int32) (x1 : Int32) (x2 : Int32) : Option ((Int32)) :=
  pbr (x0 < x1)
    (some ((0 : Int32)))
    (pbr (x2 < x0)
      (some ((0 : Int32)))
      (some ((1 : Int32))))

set_option maxRecDepth 100000 in
set_option maxHeartbeats 4000000 in
theorem ct_X11_within (l : Launch) (D : va_G) (cA : Nat → ClassId) (x0 : Int32) (x1 : Int32) (x2 : Int32) (o_r : Int32) (hf : f_X11_within x0 x1 x2 = some o_r) : CT l yX11_within wsX11_within rm_X11_within D cA [.int x0, .int x1, .int x2] (w_X11_within  cA ) (w_X11_within  cA ) (some (.int o_r)) := by
  refine CT.ofW (cc := cX11_within) (maxL := 3) (ret := (some .boolean)) (by decide +kernel) rfl (Nat.le_of_ble_eq_true rfl) ?_
  intro p e s m below meth c A C0 hA hP hD ls hl
  have C0 : MX p s m [.int x0, .int x1, .int x2].toArray meth c cX11_within 3 wsX11_within RX11 (some .boolean) D cA := C0
  have hl : lv_has ls 3 [(0, .int x0), (1, .int x1), (2, .int x2)] := hl
  obtain ⟨hx, hb, hml, hown, hts, hr, hlocks, hX⟩ := id C0
  have hK := hX.1
  have hN := hX.2
  have hS : va_S A s.heap s.heap [] := va_S.rf
  unfold f_X11_within at hf
  refine lv_iload_n hx hb dX11_within_0 rfl (lv_at hl 0 rfl) ?_
  refine lv_iload_n hx hb dX11_within_1 rfl (lv_at hl 1 rfl) ?_
  refine lv_icmp_lt (tgt := 14) hx hb dX11_within_2 (by decide) (fun c_1 => ?_) (fun c_1 => ?_)
  · have hf := pbr_t c_1 hf
    refine lv_iconst (v := (0 : Int32)) hx hb dX11_within_14 (by decide) ?_
    obtain rfl := pe1 hf
    exact m_zret (by decide) hx hb hr hlocks hP hS dX11_within_15
  have hf := pbr_f c_1 hf
  refine lv_iload_n hx hb dX11_within_5 rfl (lv_at hl 0 rfl) ?_
  refine lv_iload_n hx hb dX11_within_6 rfl (lv_at hl 2 rfl) ?_
  refine lv_icmp_gt (tgt := 14) hx hb dX11_within_7 (by decide) (fun c_2 => ?_) (fun c_2 => ?_)
  · have hf := pbr_t c_2 hf
    refine lv_iconst (v := (0 : Int32)) hx hb dX11_within_14 (by decide) ?_
    obtain rfl := pe1 hf
    exact m_zret (by decide) hx hb hr hlocks hP hS dX11_within_15
  have hf := pbr_f c_2 hf
  refine lv_iconst (v := (1 : Int32)) hx hb dX11_within_10 (by decide) ?_
  refine lv_goto (tgt := 15) hx hb dX11_within_11 (by decide) ?_
  obtain rfl := pe1 hf
  exact m_zret (by decide) hx hb hr hlocks hP hS dX11_within_15

/-! ===== OrphanWave.isSpan(IIII)Z ===== -/
abbrev rm_X11_isSpan : Room := { frames := 0, cells := 0, slots := 0, locals := 0 }
abbrev w_X11_isSpan  (cA : Nat → ClassId)  : va_W := []

def f_X11_isSpan (x0 : Int32) (x1 : Int32) (x2 : Int32) (x3 : Int32) : Option ((Int32)) :=
  pbr (x0 < x2)
    (some ((0 : Int32)))
    (pbr (x1 < x0)
      (some ((0 : Int32)))
      (pbr (x3 < x1)
        (some ((0 : Int32)))
        (some ((1 : Int32)))))

set_option maxRecDepth 100000 in
set_option maxHeartbeats 4000000 in
theorem ct_X11_isSpan (l : Launch) (D : va_G) (cA : Nat → ClassId) (x0 : Int32) (x1 : Int32) (x2 : Int32) (x3 : Int32) (o_r : Int32) (hf : f_X11_isSpan x0 x1 x2 x3 = some o_r) : CT l yX11_isSpan wsX11_isSpan rm_X11_isSpan D cA [.int x0, .int x1, .int x2, .int x3] (w_X11_isSpan  cA ) (w_X11_isSpan  cA ) (some (.int o_r)) := by
  refine CT.ofW (cc := cX11_isSpan) (maxL := 4) (ret := (some .boolean)) (by decide +kernel) rfl (Nat.le_of_ble_eq_true rfl) ?_
  intro p e s m below meth c A C0 hA hP hD ls hl
  have C0 : MX p s m [.int x0, .int x1, .int x2, .int x3].toArray meth c cX11_isSpan 4 wsX11_isSpan RX11 (some .boolean) D cA := C0
  have hl : lv_has ls 4 [(0, .int x0), (1, .int x1), (2, .int x2), (3, .int x3)] := hl
  obtain ⟨hx, hb, hml, hown, hts, hr, hlocks, hX⟩ := id C0
  have hK := hX.1
  have hN := hX.2
  have hS : va_S A s.heap s.heap [] := va_S.rf
  unfold f_X11_isSpan at hf
  refine lv_iload_n hx hb dX11_isSpan_0 rfl (lv_at hl 0 rfl) ?_
  refine lv_iload_n hx hb dX11_isSpan_1 rfl (lv_at hl 2 rfl) ?_
  refine lv_icmp_lt (tgt := 19) hx hb dX11_isSpan_2 (by decide) (fun c_1 => ?_) (fun c_1 => ?_)
  · have hf := pbr_t c_1 hf
    refine lv_iconst (v := (0 : Int32)) hx hb dX11_isSpan_19 (by decide) ?_
    obtain rfl := pe1 hf
    exact m_zret (by decide) hx hb hr hlocks hP hS dX11_isSpan_20
  have hf := pbr_f c_1 hf
  refine lv_iload_n hx hb dX11_isSpan_5 rfl (lv_at hl 0 rfl) ?_
  refine lv_iload_n hx hb dX11_isSpan_6 rfl (lv_at hl 1 rfl) ?_
  refine lv_icmp_gt (tgt := 19) hx hb dX11_isSpan_7 (by decide) (fun c_2 => ?_) (fun c_2 => ?_)
  · have hf := pbr_t c_2 hf
    refine lv_iconst (v := (0 : Int32)) hx hb dX11_isSpan_19 (by decide) ?_
    obtain rfl := pe1 hf
    exact m_zret (by decide) hx hb hr hlocks hP hS dX11_isSpan_20
  have hf := pbr_f c_2 hf
  refine lv_iload_n hx hb dX11_isSpan_10 rfl (lv_at hl 1 rfl) ?_
  refine lv_iload_n hx hb dX11_isSpan_11 rfl (lv_at hl 3 rfl) ?_
  refine lv_icmp_gt (tgt := 19) hx hb dX11_isSpan_12 (by decide) (fun c_3 => ?_) (fun c_3 => ?_)
  · have hf := pbr_t c_3 hf
    refine lv_iconst (v := (0 : Int32)) hx hb dX11_isSpan_19 (by decide) ?_
    obtain rfl := pe1 hf
    exact m_zret (by decide) hx hb hr hlocks hP hS dX11_isSpan_20
  have hf := pbr_f c_3 hf
  refine lv_iconst (v := (1 : Int32)) hx hb dX11_isSpan_15 (by decide) ?_
  refine lv_goto (tgt := 20) hx hb dX11_isSpan_16 (by decide) ?_
  obtain rfl := pe1 hf
  exact m_zret (by decide) hx hb hr hlocks hP hS dX11_isSpan_20

/-! ===== OrphanWave.isCell(I)Z ===== -/
abbrev rm_X11_isCell : Room := { frames := 1, cells := 0, slots := 0, locals := 22 }
abbrev w_X11_isCell  (cA : Nat → ClassId)  : va_W := []

def f_X11_isCell (x0 : Int32) : Option ((Int32)) :=
  pcl (f_X11_within x0 (0 : Int32) (47 : Int32)) (fun r_1 => (
  pgd (r_1 = 0 ∨ r_1 = 1) (
  some (r_1))))

set_option maxRecDepth 100000 in
set_option maxHeartbeats 4000000 in
theorem ct_X11_isCell (l : Launch) (D : va_G) (cA : Nat → ClassId) (x0 : Int32) (o_r : Int32) (hf : f_X11_isCell x0 = some o_r) : CT l yX11_isCell wsX11_isCell rm_X11_isCell D cA [.int x0] (w_X11_isCell  cA ) (w_X11_isCell  cA ) (some (.int o_r)) := by
  refine CT.ofW (cc := cX11_isCell) (maxL := 1) (ret := (some .boolean)) (by decide +kernel) rfl (Nat.le_of_ble_eq_true rfl) ?_
  intro p e s m below meth c A C0 hA hP hD ls hl
  have C0 : MX p s m [.int x0].toArray meth c cX11_isCell 1 wsX11_isCell RX11 (some .boolean) D cA := C0
  have hl : lv_has ls 1 [(0, .int x0)] := hl
  obtain ⟨hx, hb, hml, hown, hts, hr, hlocks, hX⟩ := id C0
  have hK := hX.1
  have hN := hX.2
  have hS : va_S A s.heap s.heap [] := va_S.rf
  unfold f_X11_isCell at hf
  refine lv_iload_n hx hb dX11_isCell_0 rfl (lv_at hl 0 rfl) ?_
  refine lv_iconst (v := (0 : Int32)) hx hb dX11_isCell_1 (by decide) ?_
  refine lv_bipush (v := (47 : Int32)) hx hb dX11_isCell_2 (by decide) ?_
  obtain ⟨r_1, hc_2, hf⟩ := pcl_e hf
  refine m_callS2 (As := [.int x0, .int (0 : Int32), .int (47 : Int32)]) (rest := []) ⟨hx, hb, hml, hown, hts⟩ hX (ct_X11_within l D cA x0 (0 : Int32) (47 : Int32) r_1 hc_2) (va_cwS 3 hts gX11_isCell_X11_within rfl rfl rfl (by decide +kernel) ⟨Nat.le_of_ble_eq_true rfl, Nat.le_of_ble_eq_true rfl⟩) hP hD hS hA [] [] 0 (by decide) rfl rfl (WS' := (w_X11_isCell  cA )) (WR := []) rfl rfl rfl rfl (by decide) (by decide) rfl hl.1 rfl (st' := [.int r_1]) rfl (Nat.le_of_ble_eq_true rfl) ⟨Nat.zero_le _, Nat.zero_le _⟩ dX11_isCell_4 (fun H locs hP hD hS => ?_)
  obtain ⟨g_3, hf⟩ := pgd_e hf
  obtain rfl := pe1 hf
  exact m_zret g_3 hx hb hr hlocks hP hS dX11_isCell_7

/-! ===== OrphanWave.isSize(I)Z ===== -/
abbrev rm_X11_isSize : Room := { frames := 1, cells := 0, slots := 0, locals := 22 }
abbrev w_X11_isSize  (cA : Nat → ClassId)  : va_W := []

def f_X11_isSize (x0 : Int32) : Option ((Int32)) :=
  pcl (f_X11_within x0 (1 : Int32) (99 : Int32)) (fun r_1 => (
  pgd (r_1 = 0 ∨ r_1 = 1) (
  some (r_1))))

set_option maxRecDepth 100000 in
set_option maxHeartbeats 4000000 in
theorem ct_X11_isSize (l : Launch) (D : va_G) (cA : Nat → ClassId) (x0 : Int32) (o_r : Int32) (hf : f_X11_isSize x0 = some o_r) : CT l yX11_isSize wsX11_isSize rm_X11_isSize D cA [.int x0] (w_X11_isSize  cA ) (w_X11_isSize  cA ) (some (.int o_r)) := by
  refine CT.ofW (cc := cX11_isSize) (maxL := 1) (ret := (some .boolean)) (by decide +kernel) rfl (Nat.le_of_ble_eq_true rfl) ?_
  intro p e s m below meth c A C0 hA hP hD ls hl
  have C0 : MX p s m [.int x0].toArray meth c cX11_isSize 1 wsX11_isSize RX11 (some .boolean) D cA := C0
  have hl : lv_has ls 1 [(0, .int x0)] := hl
  obtain ⟨hx, hb, hml, hown, hts, hr, hlocks, hX⟩ := id C0
  have hK := hX.1
  have hN := hX.2
  have hS : va_S A s.heap s.heap [] := va_S.rf
  unfold f_X11_isSize at hf
  refine lv_iload_n hx hb dX11_isSize_0 rfl (lv_at hl 0 rfl) ?_
  refine lv_iconst (v := (1 : Int32)) hx hb dX11_isSize_1 (by decide) ?_
  refine lv_bipush (v := (99 : Int32)) hx hb dX11_isSize_2 (by decide) ?_
  obtain ⟨r_1, hc_2, hf⟩ := pcl_e hf
  refine m_callS2 (As := [.int x0, .int (1 : Int32), .int (99 : Int32)]) (rest := []) ⟨hx, hb, hml, hown, hts⟩ hX (ct_X11_within l D cA x0 (1 : Int32) (99 : Int32) r_1 hc_2) (va_cwS 3 hts gX11_isSize_X11_within rfl rfl rfl (by decide +kernel) ⟨Nat.le_of_ble_eq_true rfl, Nat.le_of_ble_eq_true rfl⟩) hP hD hS hA [] [] 0 (by decide) rfl rfl (WS' := (w_X11_isSize  cA )) (WR := []) rfl rfl rfl rfl (by decide) (by decide) rfl hl.1 rfl (st' := [.int r_1]) rfl (Nat.le_of_ble_eq_true rfl) ⟨Nat.zero_le _, Nat.zero_le _⟩ dX11_isSize_4 (fun H locs hP hD hS => ?_)
  obtain ⟨g_3, hf⟩ := pgd_e hf
  obtain rfl := pe1 hf
  exact m_zret g_3 hx hb hr hlocks hP hS dX11_isSize_7

/-! ===== OrphanWave.isYear(I)Z ===== -/
abbrev rm_X11_isYear : Room := { frames := 1, cells := 0, slots := 0, locals := 22 }
abbrev w_X11_isYear  (cA : Nat → ClassId)  : va_W := []

def f_X11_isYear (x0 : Int32) : Option ((Int32)) :=
  pcl (f_X11_within x0 (0 : Int32) (9999 : Int32)) (fun r_1 => (
  pgd (r_1 = 0 ∨ r_1 = 1) (
  some (r_1))))

set_option maxRecDepth 100000 in
set_option maxHeartbeats 4000000 in
theorem ct_X11_isYear (l : Launch) (D : va_G) (cA : Nat → ClassId) (x0 : Int32) (o_r : Int32) (hf : f_X11_isYear x0 = some o_r) : CT l yX11_isYear wsX11_isYear rm_X11_isYear D cA [.int x0] (w_X11_isYear  cA ) (w_X11_isYear  cA ) (some (.int o_r)) := by
  refine CT.ofW (cc := cX11_isYear) (maxL := 1) (ret := (some .boolean)) (by decide +kernel) rfl (Nat.le_of_ble_eq_true rfl) ?_
  intro p e s m below meth c A C0 hA hP hD ls hl
  have C0 : MX p s m [.int x0].toArray meth c cX11_isYear 1 wsX11_isYear RX11 (some .boolean) D cA := C0
  have hl : lv_has ls 1 [(0, .int x0)] := hl
  obtain ⟨hx, hb, hml, hown, hts, hr, hlocks, hX⟩ := id C0
  have hK := hX.1
  have hN := hX.2
  have hS : va_S A s.heap s.heap [] := va_S.rf
  unfold f_X11_isYear at hf
  refine lv_iload_n hx hb dX11_isYear_0 rfl (lv_at hl 0 rfl) ?_
  refine lv_iconst (v := (0 : Int32)) hx hb dX11_isYear_1 (by decide) ?_
  refine lv_sipush (v := (9999 : Int32)) hx hb dX11_isYear_2 (by decide) ?_
  obtain ⟨r_1, hc_2, hf⟩ := pcl_e hf
  refine m_callS2 (As := [.int x0, .int (0 : Int32), .int (9999 : Int32)]) (rest := []) ⟨hx, hb, hml, hown, hts⟩ hX (ct_X11_within l D cA x0 (0 : Int32) (9999 : Int32) r_1 hc_2) (va_cwS 3 hts gX11_isYear_X11_within rfl rfl rfl (by decide +kernel) ⟨Nat.le_of_ble_eq_true rfl, Nat.le_of_ble_eq_true rfl⟩) hP hD hS hA [] [] 0 (by decide) rfl rfl (WS' := (w_X11_isYear  cA )) (WR := []) rfl rfl rfl rfl (by decide) (by decide) rfl hl.1 rfl (st' := [.int r_1]) rfl (Nat.le_of_ble_eq_true rfl) ⟨Nat.zero_le _, Nat.zero_le _⟩ dX11_isYear_5 (fun H locs hP hD hS => ?_)
  obtain ⟨g_3, hf⟩ := pgd_e hf
  obtain rfl := pe1 hf
  exact m_zret g_3 hx hb hr hlocks hP hS dX11_isYear_8

/-! ===== OrphanWave.isWood(I)Z ===== -/
abbrev rm_X11_isWood : Room := { frames := 1, cells := 0, slots := 0, locals := 22 }
abbrev w_X11_isWood  (cA : Nat → ClassId)  : va_W := []

def f_X11_isWood (x0 : Int32) : Option ((Int32)) :=
  pcl (f_X11_within x0 (0 : Int32) (3 : Int32)) (fun r_1 => (
  pgd (r_1 = 0 ∨ r_1 = 1) (
  some (r_1))))

set_option maxRecDepth 100000 in
set_option maxHeartbeats 4000000 in
theorem ct_X11_isWood (l : Launch) (D : va_G) (cA : Nat → ClassId) (x0 : Int32) (o_r : Int32) (hf : f_X11_isWood x0 = some o_r) : CT l yX11_isWood wsX11_isWood rm_X11_isWood D cA [.int x0] (w_X11_isWood  cA ) (w_X11_isWood  cA ) (some (.int o_r)) := by
  refine CT.ofW (cc := cX11_isWood) (maxL := 1) (ret := (some .boolean)) (by decide +kernel) rfl (Nat.le_of_ble_eq_true rfl) ?_
  intro p e s m below meth c A C0 hA hP hD ls hl
  have C0 : MX p s m [.int x0].toArray meth c cX11_isWood 1 wsX11_isWood RX11 (some .boolean) D cA := C0
  have hl : lv_has ls 1 [(0, .int x0)] := hl
  obtain ⟨hx, hb, hml, hown, hts, hr, hlocks, hX⟩ := id C0
  have hK := hX.1
  have hN := hX.2
  have hS : va_S A s.heap s.heap [] := va_S.rf
  unfold f_X11_isWood at hf
  refine lv_iload_n hx hb dX11_isWood_0 rfl (lv_at hl 0 rfl) ?_
  refine lv_iconst (v := (0 : Int32)) hx hb dX11_isWood_1 (by decide) ?_
  refine lv_iconst (v := (3 : Int32)) hx hb dX11_isWood_2 (by decide) ?_
  obtain ⟨r_1, hc_2, hf⟩ := pcl_e hf
  refine m_callS2 (As := [.int x0, .int (0 : Int32), .int (3 : Int32)]) (rest := []) ⟨hx, hb, hml, hown, hts⟩ hX (ct_X11_within l D cA x0 (0 : Int32) (3 : Int32) r_1 hc_2) (va_cwS 3 hts gX11_isWood_X11_within rfl rfl rfl (by decide +kernel) ⟨Nat.le_of_ble_eq_true rfl, Nat.le_of_ble_eq_true rfl⟩) hP hD hS hA [] [] 0 (by decide) rfl rfl (WS' := (w_X11_isWood  cA )) (WR := []) rfl rfl rfl rfl (by decide) (by decide) rfl hl.1 rfl (st' := [.int r_1]) rfl (Nat.le_of_ble_eq_true rfl) ⟨Nat.zero_le _, Nat.zero_le _⟩ dX11_isWood_3 (fun H locs hP hD hS => ?_)
  obtain ⟨g_3, hf⟩ := pgd_e hf
  obtain rfl := pe1 hf
  exact m_zret g_3 hx hb hr hlocks hP hS dX11_isWood_6

/-! ===== OrphanWave.isWidth(I)Z ===== -/
abbrev rm_X11_isWidth : Room := { frames := 1, cells := 0, slots := 0, locals := 22 }
abbrev w_X11_isWidth  (cA : Nat → ClassId)  : va_W := []

def f_X11_isWidth (x0 : Int32) : Option ((Int32)) :=
  pcl (f_X11_within x0 (0 : Int32) (99 : Int32)) (fun r_1 => (
  pgd (r_1 = 0 ∨ r_1 = 1) (
  some (r_1))))

set_option maxRecDepth 100000 in
set_option maxHeartbeats 4000000 in
theorem ct_X11_isWidth (l : Launch) (D : va_G) (cA : Nat → ClassId) (x0 : Int32) (o_r : Int32) (hf : f_X11_isWidth x0 = some o_r) : CT l yX11_isWidth wsX11_isWidth rm_X11_isWidth D cA [.int x0] (w_X11_isWidth  cA ) (w_X11_isWidth  cA ) (some (.int o_r)) := by
  refine CT.ofW (cc := cX11_isWidth) (maxL := 1) (ret := (some .boolean)) (by decide +kernel) rfl (Nat.le_of_ble_eq_true rfl) ?_
  intro p e s m below meth c A C0 hA hP hD ls hl
  have C0 : MX p s m [.int x0].toArray meth c cX11_isWidth 1 wsX11_isWidth RX11 (some .boolean) D cA := C0
  have hl : lv_has ls 1 [(0, .int x0)] := hl
  obtain ⟨hx, hb, hml, hown, hts, hr, hlocks, hX⟩ := id C0
  have hK := hX.1
  have hN := hX.2
  have hS : va_S A s.heap s.heap [] := va_S.rf
  unfold f_X11_isWidth at hf
  refine lv_iload_n hx hb dX11_isWidth_0 rfl (lv_at hl 0 rfl) ?_
  refine lv_iconst (v := (0 : Int32)) hx hb dX11_isWidth_1 (by decide) ?_
  refine lv_bipush (v := (99 : Int32)) hx hb dX11_isWidth_2 (by decide) ?_
  obtain ⟨r_1, hc_2, hf⟩ := pcl_e hf
  refine m_callS2 (As := [.int x0, .int (0 : Int32), .int (99 : Int32)]) (rest := []) ⟨hx, hb, hml, hown, hts⟩ hX (ct_X11_within l D cA x0 (0 : Int32) (99 : Int32) r_1 hc_2) (va_cwS 3 hts gX11_isWidth_X11_within rfl rfl rfl (by decide +kernel) ⟨Nat.le_of_ble_eq_true rfl, Nat.le_of_ble_eq_true rfl⟩) hP hD hS hA [] [] 0 (by decide) rfl rfl (WS' := (w_X11_isWidth  cA )) (WR := []) rfl rfl rfl rfl (by decide) (by decide) rfl hl.1 rfl (st' := [.int r_1]) rfl (Nat.le_of_ble_eq_true rfl) ⟨Nat.zero_le _, Nat.zero_le _⟩ dX11_isWidth_4 (fun H locs hP hD hS => ?_)
  obtain ⟨g_3, hf⟩ := pgd_e hf
  obtain rfl := pe1 hf
  exact m_zret g_3 hx hb hr hlocks hP hS dX11_isWidth_7

/-! ===== OrphanWave.isMarsh(I)Z ===== -/
abbrev rm_X11_isMarsh : Room := { frames := 1, cells := 0, slots := 0, locals := 22 }
abbrev w_X11_isMarsh  (cA : Nat → ClassId)  : va_W := []

def f_X11_isMarsh (x0 : Int32) : Option ((Int32)) :=
  pcl (f_X11_within x0 (0 : Int32) (5 : Int32)) (fun r_1 => (
  pgd (r_1 = 0 ∨ r_1 = 1) (
  some (r_1))))

set_option maxRecDepth 100000 in
set_option maxHeartbeats 4000000 in
theorem ct_X11_isMarsh (l : Launch) (D : va_G) (cA : Nat → ClassId) (x0 : Int32) (o_r : Int32) (hf : f_X11_isMarsh x0 = some o_r) : CT l yX11_isMarsh wsX11_isMarsh rm_X11_isMarsh D cA [.int x0] (w_X11_isMarsh  cA ) (w_X11_isMarsh  cA ) (some (.int o_r)) := by
  refine CT.ofW (cc := cX11_isMarsh) (maxL := 1) (ret := (some .boolean)) (by decide +kernel) rfl (Nat.le_of_ble_eq_true rfl) ?_
  intro p e s m below meth c A C0 hA hP hD ls hl
  have C0 : MX p s m [.int x0].toArray meth c cX11_isMarsh 1 wsX11_isMarsh RX11 (some .boolean) D cA := C0
  have hl : lv_has ls 1 [(0, .int x0)] := hl
  obtain ⟨hx, hb, hml, hown, hts, hr, hlocks, hX⟩ := id C0
  have hK := hX.1
  have hN := hX.2
  have hS : va_S A s.heap s.heap [] := va_S.rf
  unfold f_X11_isMarsh at hf
  refine lv_iload_n hx hb dX11_isMarsh_0 rfl (lv_at hl 0 rfl) ?_
  refine lv_iconst (v := (0 : Int32)) hx hb dX11_isMarsh_1 (by decide) ?_
  refine lv_iconst (v := (5 : Int32)) hx hb dX11_isMarsh_2 (by decide) ?_
  obtain ⟨r_1, hc_2, hf⟩ := pcl_e hf
  refine m_callS2 (As := [.int x0, .int (0 : Int32), .int (5 : Int32)]) (rest := []) ⟨hx, hb, hml, hown, hts⟩ hX (ct_X11_within l D cA x0 (0 : Int32) (5 : Int32) r_1 hc_2) (va_cwS 3 hts gX11_isMarsh_X11_within rfl rfl rfl (by decide +kernel) ⟨Nat.le_of_ble_eq_true rfl, Nat.le_of_ble_eq_true rfl⟩) hP hD hS hA [] [] 0 (by decide) rfl rfl (WS' := (w_X11_isMarsh  cA )) (WR := []) rfl rfl rfl rfl (by decide) (by decide) rfl hl.1 rfl (st' := [.int r_1]) rfl (Nat.le_of_ble_eq_true rfl) ⟨Nat.zero_le _, Nat.zero_le _⟩ dX11_isMarsh_3 (fun H locs hP hD hS => ?_)
  obtain ⟨g_3, hf⟩ := pgd_e hf
  obtain rfl := pe1 hf
  exact m_zret g_3 hx hb hr hlocks hP hS dX11_isMarsh_6

/-! ===== OrphanWave.isStory(I)Z ===== -/
abbrev rm_X11_isStory : Room := { frames := 1, cells := 0, slots := 0, locals := 22 }
abbrev w_X11_isStory  (cA : Nat → ClassId)  : va_W := []

def f_X11_isStory (x0 : Int32) : Option ((Int32)) :=
  pcl (f_X11_within x0 (0 : Int32) (4 : Int32)) (fun r_1 => (
  pgd (r_1 = 0 ∨ r_1 = 1) (
  some (r_1))))

set_option maxRecDepth 100000 in
set_option maxHeartbeats 4000000 in
theorem ct_X11_isStory (l : Launch) (D : va_G) (cA : Nat → ClassId) (x0 : Int32) (o_r : Int32) (hf : f_X11_isStory x0 = some o_r) : CT l yX11_isStory wsX11_isStory rm_X11_isStory D cA [.int x0] (w_X11_isStory  cA ) (w_X11_isStory  cA ) (some (.int o_r)) := by
  refine CT.ofW (cc := cX11_isStory) (maxL := 1) (ret := (some .boolean)) (by decide +kernel) rfl (Nat.le_of_ble_eq_true rfl) ?_
  intro p e s m below meth c A C0 hA hP hD ls hl
  have C0 : MX p s m [.int x0].toArray meth c cX11_isStory 1 wsX11_isStory RX11 (some .boolean) D cA := C0
  have hl : lv_has ls 1 [(0, .int x0)] := hl
  obtain ⟨hx, hb, hml, hown, hts, hr, hlocks, hX⟩ := id C0
  have hK := hX.1
  have hN := hX.2
  have hS : va_S A s.heap s.heap [] := va_S.rf
  unfold f_X11_isStory at hf
  refine lv_iload_n hx hb dX11_isStory_0 rfl (lv_at hl 0 rfl) ?_
  refine lv_iconst (v := (0 : Int32)) hx hb dX11_isStory_1 (by decide) ?_
  refine lv_iconst (v := (4 : Int32)) hx hb dX11_isStory_2 (by decide) ?_
  obtain ⟨r_1, hc_2, hf⟩ := pcl_e hf
  refine m_callS2 (As := [.int x0, .int (0 : Int32), .int (4 : Int32)]) (rest := []) ⟨hx, hb, hml, hown, hts⟩ hX (ct_X11_within l D cA x0 (0 : Int32) (4 : Int32) r_1 hc_2) (va_cwS 3 hts gX11_isStory_X11_within rfl rfl rfl (by decide +kernel) ⟨Nat.le_of_ble_eq_true rfl, Nat.le_of_ble_eq_true rfl⟩) hP hD hS hA [] [] 0 (by decide) rfl rfl (WS' := (w_X11_isStory  cA )) (WR := []) rfl rfl rfl rfl (by decide) (by decide) rfl hl.1 rfl (st' := [.int r_1]) rfl (Nat.le_of_ble_eq_true rfl) ⟨Nat.zero_le _, Nat.zero_le _⟩ dX11_isStory_3 (fun H locs hP hD hS => ?_)
  obtain ⟨g_3, hf⟩ := pgd_e hf
  obtain rfl := pe1 hf
  exact m_zret g_3 hx hb hr hlocks hP hS dX11_isStory_6

/-! ===== OrphanWave.isImage(I)Z ===== -/
abbrev rm_X11_isImage : Room := { frames := 1, cells := 0, slots := 0, locals := 22 }
abbrev w_X11_isImage  (cA : Nat → ClassId)  : va_W := []

def f_X11_isImage (x0 : Int32) : Option ((Int32)) :=
  pcl (f_X11_within x0 (0 : Int32) (1 : Int32)) (fun r_1 => (
  pgd (r_1 = 0 ∨ r_1 = 1) (
  some (r_1))))

set_option maxRecDepth 100000 in
set_option maxHeartbeats 4000000 in
theorem ct_X11_isImage (l : Launch) (D : va_G) (cA : Nat → ClassId) (x0 : Int32) (o_r : Int32) (hf : f_X11_isImage x0 = some o_r) : CT l yX11_isImage wsX11_isImage rm_X11_isImage D cA [.int x0] (w_X11_isImage  cA ) (w_X11_isImage  cA ) (some (.int o_r)) := by
  refine CT.ofW (cc := cX11_isImage) (maxL := 1) (ret := (some .boolean)) (by decide +kernel) rfl (Nat.le_of_ble_eq_true rfl) ?_
  intro p e s m below meth c A C0 hA hP hD ls hl
  have C0 : MX p s m [.int x0].toArray meth c cX11_isImage 1 wsX11_isImage RX11 (some .boolean) D cA := C0
  have hl : lv_has ls 1 [(0, .int x0)] := hl
  obtain ⟨hx, hb, hml, hown, hts, hr, hlocks, hX⟩ := id C0
  have hK := hX.1
  have hN := hX.2
  have hS : va_S A s.heap s.heap [] := va_S.rf
  unfold f_X11_isImage at hf
  refine lv_iload_n hx hb dX11_isImage_0 rfl (lv_at hl 0 rfl) ?_
  refine lv_iconst (v := (0 : Int32)) hx hb dX11_isImage_1 (by decide) ?_
  refine lv_iconst (v := (1 : Int32)) hx hb dX11_isImage_2 (by decide) ?_
  obtain ⟨r_1, hc_2, hf⟩ := pcl_e hf
  refine m_callS2 (As := [.int x0, .int (0 : Int32), .int (1 : Int32)]) (rest := []) ⟨hx, hb, hml, hown, hts⟩ hX (ct_X11_within l D cA x0 (0 : Int32) (1 : Int32) r_1 hc_2) (va_cwS 3 hts gX11_isImage_X11_within rfl rfl rfl (by decide +kernel) ⟨Nat.le_of_ble_eq_true rfl, Nat.le_of_ble_eq_true rfl⟩) hP hD hS hA [] [] 0 (by decide) rfl rfl (WS' := (w_X11_isImage  cA )) (WR := []) rfl rfl rfl rfl (by decide) (by decide) rfl hl.1 rfl (st' := [.int r_1]) rfl (Nat.le_of_ble_eq_true rfl) ⟨Nat.zero_le _, Nat.zero_le _⟩ dX11_isImage_3 (fun H locs hP hD hS => ?_)
  obtain ⟨g_3, hf⟩ := pgd_e hf
  obtain rfl := pe1 hf
  exact m_zret g_3 hx hb hr hlocks hP hS dX11_isImage_6

/-! ===== OrphanWave.isBit(I)Z ===== -/
abbrev rm_X11_isBit : Room := { frames := 0, cells := 0, slots := 0, locals := 0 }
abbrev w_X11_isBit  (cA : Nat → ClassId)  : va_W := []

def f_X11_isBit (x0 : Int32) : Option ((Int32)) :=
  pbr (x0 = 0)
    (some ((1 : Int32)))
    (pbr (x0 = (1 : Int32))
      (some ((1 : Int32)))
      (some ((0 : Int32))))

set_option maxRecDepth 100000 in
set_option maxHeartbeats 4000000 in
theorem ct_X11_isBit (l : Launch) (D : va_G) (cA : Nat → ClassId) (x0 : Int32) (o_r : Int32) (hf : f_X11_isBit x0 = some o_r) : CT l yX11_isBit wsX11_isBit rm_X11_isBit D cA [.int x0] (w_X11_isBit  cA ) (w_X11_isBit  cA ) (some (.int o_r)) := by
  refine CT.ofW (cc := cX11_isBit) (maxL := 1) (ret := (some .boolean)) (by decide +kernel) rfl (Nat.le_of_ble_eq_true rfl) ?_
  intro p e s m below meth c A C0 hA hP hD ls hl
  have C0 : MX p s m [.int x0].toArray meth c cX11_isBit 1 wsX11_isBit RX11 (some .boolean) D cA := C0
  have hl : lv_has ls 1 [(0, .int x0)] := hl
  obtain ⟨hx, hb, hml, hown, hts, hr, hlocks, hX⟩ := id C0
  have hK := hX.1
  have hN := hX.2
  have hS : va_S A s.heap s.heap [] := va_S.rf
  unfold f_X11_isBit at hf
  refine lv_iload_n hx hb dX11_isBit_0 rfl (lv_at hl 0 rfl) ?_
  refine lv_if_eq (tgt := 9) hx hb dX11_isBit_1 (by decide) (fun c_1 => ?_) (fun c_1 => ?_)
  · have hf := pbr_t c_1 hf
    refine lv_iconst (v := (1 : Int32)) hx hb dX11_isBit_9 (by decide) ?_
    refine lv_goto (tgt := 14) hx hb dX11_isBit_10 (by decide) ?_
    obtain rfl := pe1 hf
    exact m_zret (by decide) hx hb hr hlocks hP hS dX11_isBit_14
  have hf := pbr_f c_1 hf
  refine lv_iload_n hx hb dX11_isBit_4 rfl (lv_at hl 0 rfl) ?_
  refine lv_iconst (v := (1 : Int32)) hx hb dX11_isBit_5 (by decide) ?_
  refine lv_icmp_ne (tgt := 13) hx hb dX11_isBit_6 (by decide) (fun c_2 => ?_) (fun c_2 => ?_)
  · have hf := pbr_f c_2 hf
    refine lv_iconst (v := (0 : Int32)) hx hb dX11_isBit_13 (by decide) ?_
    obtain rfl := pe1 hf
    exact m_zret (by decide) hx hb hr hlocks hP hS dX11_isBit_14
  have hf := pbr_t c_2 hf
  refine lv_iconst (v := (1 : Int32)) hx hb dX11_isBit_9 (by decide) ?_
  refine lv_goto (tgt := 14) hx hb dX11_isBit_10 (by decide) ?_
  obtain rfl := pe1 hf
  exact m_zret (by decide) hx hb hr hlocks hP hS dX11_isBit_14

/-! ===== OrphanWave.commonPart(JJ)J ===== -/
abbrev rm_X11_commonPart : Room := { frames := 0, cells := 0, slots := 0, locals := 0 }
abbrev w_X11_commonPart  (cA : Nat → ClassId)  : va_W := []

def f_X11_commonPart_9 (x0 : Int64) (x2 : Int64) : Nat → (Int64) → (Int64) → (Int32) → Option ((Int64))
  | 0, _, _, _ => none
  | k + 1, x4, x6, x8 =>
    pbr ((128 : Int32) ≤ x8)
      (some (x4))
      (pbr ((lg_cmp x6 (0 : Int64)) = 0)
        (some (x4))
        (pgd (¬ x6 = 0) (
        plt ((x4 - x4 / x6 * x6) : Int64) (fun x9_4 => (
        plt (x8 + (1 : Int32) : Int32) (fun x8_5 => (
        (f_X11_commonPart_9 x0 x2 k) x6 x9_4 x8_5)))))))

set_option maxRecDepth 100000 in
set_option maxHeartbeats 4000000 in
theorem k_X11_commonPart_9 {p : Program} {l : Launch} {e : Env} {s : State} {m : MethodId} {args : Array Value} {below : List Frame} {meth : Method} {c : Code} {A : Nat → Prop} {D : va_G} {cA : Nat → ClassId} (C0 : MX p s m args meth c cX11_commonPart 11 wsX11_commonPart RX11 (some .long) D cA) (hA : ∀ q, s.heap.size ≤ q → A q) {x0 : Int64} {x2 : Int64} {o_r : Int64} : ∀ (k : Nat) (x4 : Int64) (x6 : Int64) (x8 : Int32), f_X11_commonPart_9 x0 x2 k x4 x6 x8 = some o_r → ∀ (H : Heap) (locs : List Loc), va_P D vwCl (w_X11_commonPart  cA ) H → va_D A (w_X11_commonPart  cA ) → va_S A s.heap H locs → ∀ ls : Array Slot, lv_has ls 11 [(4, .long x4), (6, .long x6), (8, .int x8)] → W p l e rm_X11_commonPart s m args below meth c H locs 0 0 (MQ below (CQ D (some (.long o_r)) (w_X11_commonPart  cA ) A) args s 0 0 A) (F0 m 9 ls []) := by
  obtain ⟨hx, hb, hml, hown, hts, hr, hlocks, hX⟩ := C0
  have hK := hX.1
  have hN := hX.2
  intro k
  induction k with
  | zero =>
    intro x4 x6 x8 hf
    cases hf
  | succ k ih =>
    intro x4 x6 x8 hf H locs hP hD hS ls hl
    rw [f_X11_commonPart_9] at hf
    refine lv_iload hx hb dX11_commonPart_9 (lv_at hl 2 rfl) ?_
    refine lv_sipush (v := (128 : Int32)) hx hb dX11_commonPart_11 (by decide) ?_
    refine lv_icmp_ge (tgt := 45) hx hb dX11_commonPart_14 (by decide) (fun c_1 => ?_) (fun c_1 => ?_)
    · have hf := pbr_t c_1 hf
      refine lv_lload hx hb dX11_commonPart_45 (lv_at hl 0 rfl) ?_
      obtain rfl := pe1 hf
      exact m_lret hx hb hr hlocks hP hS dX11_commonPart_47
    have hf := pbr_f c_1 hf
    refine lv_lload hx hb dX11_commonPart_17 (lv_at hl 1 rfl) ?_
    refine lv_lconst (v := (0 : Int64)) hx hb dX11_commonPart_19 (by decide) ?_
    refine W.lcmp hx hb dX11_commonPart_20 ?_
    refine lv_if_eq (tgt := 45) hx hb dX11_commonPart_21 (by decide) (fun c_2 => ?_) (fun c_2 => ?_)
    · have hf := pbr_t c_2 hf
      refine lv_lload hx hb dX11_commonPart_45 (lv_at hl 0 rfl) ?_
      obtain rfl := pe1 hf
      exact m_lret hx hb hr hlocks hP hS dX11_commonPart_47
    have hf := pbr_f c_2 hf
    refine lv_lload hx hb dX11_commonPart_24 (lv_at hl 0 rfl) ?_
    refine lv_lload hx hb dX11_commonPart_26 (lv_at hl 1 rfl) ?_
    obtain ⟨g_3, hf⟩ := pgd_e hf
    refine lv_lrem hx hb dX11_commonPart_28 g_3 ?_
    refine lv_topl (fun x9_4 ex9_4 => ?_)
    have hf := plt_e ex9_4 hf
    refine lv_lstore (lv' := [(9, .long x9_4), (4, .long x4), (6, .long x6), (8, .int x8)]) hx hb dX11_commonPart_29 hl (by decide) rfl (fun ls hl => ?_)
    refine lv_lload hx hb dX11_commonPart_31 (lv_at hl 2 rfl) ?_
    refine lv_lstore (lv' := [(4, .long x6), (9, .long x9_4), (6, .long x6), (8, .int x8)]) hx hb dX11_commonPart_33 hl (by decide) rfl (fun ls hl => ?_)
    refine lv_lload hx hb dX11_commonPart_35 (lv_at hl 1 rfl) ?_
    refine lv_lstore (lv' := [(6, .long x9_4), (4, .long x6), (9, .long x9_4), (8, .int x8)]) hx hb dX11_commonPart_37 hl (by decide) rfl (fun ls hl => ?_)
    obtain ⟨x8_5, ex8_5⟩ : ∃ z : Int32, z = x8 + (1 : Int32) := ⟨_, rfl⟩
    have hf := plt_e ex8_5 hf
    refine lv_iinc (v := x8_5) (lv' := [(8, .int x8_5), (6, .long x9_4), (4, .long x6), (9, .long x9_4)]) hx hb dX11_commonPart_39 hl (k := 3) rfl (by rw [ex8_5]; rfl) (by decide) rfl (fun ls hl => ?_)
    refine lv_goto (tgt := 9) hx hb dX11_commonPart_42 (by decide) ?_
    exact ih x6 x9_4 x8_5 hf _ _ hP hD hS ls (lv_sub hl [2, 1, 0] rfl)

def f_X11_commonPart (x0 : Int64) (x2 : Int64) : Option ((Int64)) :=
  f_X11_commonPart_9 x0 x2 FU x0 x2 (0 : Int32)

set_option maxRecDepth 100000 in
set_option maxHeartbeats 4000000 in
theorem ct_X11_commonPart (l : Launch) (D : va_G) (cA : Nat → ClassId) (x0 : Int64) (x2 : Int64) (o_r : Int64) (hf : f_X11_commonPart x0 x2 = some o_r) : CT l yX11_commonPart wsX11_commonPart rm_X11_commonPart D cA [.long x0, .long x2] (w_X11_commonPart  cA ) (w_X11_commonPart  cA ) (some (.long o_r)) := by
  refine CT.ofW (cc := cX11_commonPart) (maxL := 11) (ret := (some .long)) (by decide +kernel) rfl (Nat.le_of_ble_eq_true rfl) ?_
  intro p e s m below meth c A C0 hA hP hD ls hl
  have C0 : MX p s m [.long x0, .long x2].toArray meth c cX11_commonPart 11 wsX11_commonPart RX11 (some .long) D cA := C0
  have hl : lv_has ls 11 [(0, .long x0), (2, .long x2)] := hl
  obtain ⟨hx, hb, hml, hown, hts, hr, hlocks, hX⟩ := id C0
  have hK := hX.1
  have hN := hX.2
  have hS : va_S A s.heap s.heap [] := va_S.rf
  unfold f_X11_commonPart at hf
  refine lv_lload_n hx hb dX11_commonPart_0 rfl (lv_at hl 0 rfl) ?_
  refine lv_lstore (lv' := [(4, .long x0), (0, .long x0), (2, .long x2)]) hx hb dX11_commonPart_1 hl (by decide) rfl (fun ls hl => ?_)
  refine lv_lload_n hx hb dX11_commonPart_3 rfl (lv_at hl 2 rfl) ?_
  refine lv_lstore (lv' := [(6, .long x2), (4, .long x0), (0, .long x0), (2, .long x2)]) hx hb dX11_commonPart_4 hl (by decide) rfl (fun ls hl => ?_)
  refine lv_iconst (v := (0 : Int32)) hx hb dX11_commonPart_6 (by decide) ?_
  refine lv_istore (lv' := [(8, .int (0 : Int32)), (6, .long x2), (4, .long x0), (0, .long x0), (2, .long x2)]) hx hb dX11_commonPart_7 hl (by decide) rfl (fun ls hl => ?_)
  exact k_X11_commonPart_9 C0 hA FU x0 x2 (0 : Int32) hf _ _ hP hD hS ls (lv_sub hl [2, 1, 0] rfl)
