section SRCH3
variable {dp md : A32} {pc fd : Int32} {tu : A32} {d : Nat → Nat} {p f : Nat} {cl fr to lo hi books told : A32} {n : Nat} {cN : Nat → Nat} {times : G32} {far : A32} {a : Nat} {t : Nat → Option Nat} {F : Nat → Bool} {Wf : Nat → Int32}
def whS (Wf : Nat → Int32) (z : Nat) (s : Int32 × Int32) : Int32 × Int32 := if Wf z ≤ s.2 then s else (nI z, Wf z)
theorem whc_loop (hW : ∀ a, a < 48 → WfOK dp md fd tu d f cl fr to lo hi books told n cN times a (Wf a)) : ∀ (c z fu : Nat) (b m : Int32), z + c = 48 → c < fu → f_X5_likeliestCell_7 (nI n) fd to fr cl dp lo hi times fu b m (nI z) = some (foldI (whS Wf) z c (b, m)).1
  | 0, z, fu, b, m, h, hfu => by
    obtain ⟨fu', rfl⟩ : ∃ f, fu = f + 1 := ⟨fu - 1, by omega⟩
    rw [f_X5_likeliestCell_7, pbr_pos (show (48 : Int32) ≤ nI z from le_t (a := 48) (by omega))]
    rfl
  | c + 1, z, fu, b, m, h, hfu => by
    obtain ⟨fu', rfl⟩ : ∃ f, fu = f + 1 := ⟨fu - 1, by omega⟩
    rw [f_X5_likeliestCell_7, pbr_neg (show ¬ (48 : Int32) ≤ nI z from le_f (a := 48) (by omega)), (hW z (by omega)).1, pcl_some, plt_eq, plt_eq, nI_1]
    show _ = some (foldI (whS Wf) (z + 1) c (whS Wf z (b, m))).1
    unfold whS
    by_cases g : Wf z ≤ m
    · rw [pbr_pos g, if_pos g]; exact whc_loop hW c (z + 1) fu' _ _ (by omega) (by omega)
    · rw [pbr_neg g, if_neg g]; exact whc_loop hW c (z + 1) fu' _ _ (by omega) (by omega)
theorem wh_step (R : Int32 → Int32 → Int32 → Int32 → Int32 → A32 → Option (Int32 × Int32 × Int32 × A32)) (bk md tu tl : A32) (x1 b m x4 w E L : Int32) (fa : A32) : f_X12_whence_55 R bk md tu tl x1 b m x4 w E L fa = R (if w ≤ m then b else x4) (if w ≤ m then m else w) (x4 + 1) E L fa := by
  unfold f_X12_whence_55 f_X12_whence_69
  simp only [plt_eq]
  by_cases g : w ≤ m
  · rw [pbr_pos g, pbr_pos g, if_pos g, if_pos g]
  · rw [pbr_neg g, pbr_neg g, if_neg g, if_neg g]
theorem mlk_loop (H : OcOK dp md pc tu d p) (hW : ∀ a, a < 48 → WfOK dp md fd tu d f cl fr to lo hi books told n cN times a (Wf a)) (x1 : Int32) : ∀ (c z fu : Nat) (b m E L : Int32) (far : A32), z + c = 48 → c < fu → ∃ k E' L' far', f_X12_whence_29 books md tu told x1 fu b m (nI z) E L far = f_X12_whence_29 books md tu told x1 (k + 1) (foldI (whS Wf) z c (b, m)).1 (foldI (whS Wf) z c (b, m)).2 (nI 48) E' L' far'
  | 0, z, fu, b, m, E, L, far, h, hfu => by
    obtain ⟨fu', rfl⟩ : ∃ f, fu = f + 1 := ⟨fu - 1, by omega⟩
    exact ⟨fu', E, L, far, by rw [show z = 48 by omega]; rfl⟩
  | c + 1, z, fu, b, m, E, L, far, h, hfu => by
    obtain ⟨fu', rfl⟩ : ∃ f, fu = f + 1 := ⟨fu - 1, by omega⟩
    obtain ⟨-, w2, w3, -⟩ := hW z (by omega)
    show ∃ k E' L' far', _ = f_X12_whence_29 books md tu told x1 (k + 1) (foldI (whS Wf) (z + 1) c (whS Wf z (b, m))).1 (foldI (whS Wf) (z + 1) c (whS Wf z (b, m))).2 (nI 48) E' L' far'
    have st : ∀ (E1 L1 : Int32) (far1 : A32), ∃ k E' L' far', f_X12_whence_55 (f_X12_whence_29 books md tu told x1 fu') books md tu told x1 b m (nI z) (Wf z) E1 L1 far1 = f_X12_whence_29 books md tu told x1 (k + 1) (foldI (whS Wf) (z + 1) c (whS Wf z (b, m))).1 (foldI (whS Wf) (z + 1) c (whS Wf z (b, m))).2 (nI 48) E' L' far' := fun E1 L1 far1 => by
      rw [wh_step, nI_1]
      unfold whS
      by_cases g : Wf z ≤ m
      · rw [if_pos g, if_pos g, if_pos g]; exact mlk_loop H hW x1 c (z + 1) fu' _ _ _ _ _ (by omega) (by omega)
      · rw [if_neg g, if_neg g, if_neg g]; exact mlk_loop H hW x1 c (z + 1) fu' _ _ _ _ _ (by omega) (by omega)
    rw [f_X12_whence_29, pbr_neg (show ¬ (48 : Int32) ≤ nI z from le_f (a := 48) (by omega)), msea H (by omega), pcl_some, pbr_bI]
    by_cases g : 0 < d z
    · obtain ⟨E1, L1, far1, q⟩ := w2 g E L far
      rw [pbr_pos g, q, pcl_some]
      exact st E1 L1 far1
    · rw [pbr_neg g, ← w3 (by omega)]
      exact st E L far
theorem whc_inv (Wf : Nat → Int32) : 0 ≤ (foldI (whS Wf) 0 48 (-9, 0)).2.toInt ∧ ((foldI (whS Wf) 0 48 (-9, 0)).1 = -9 ∨ ∃ a, a < 48 ∧ (foldI (whS Wf) 0 48 (-9, 0)).1 = nI a ∧ Wf a ≠ 0) := by
  refine foldI_inv (st := whS Wf) (I := fun s : Int32 × Int32 => 0 ≤ s.2.toInt ∧ (s.1 = -9 ∨ ∃ a, a < 48 ∧ s.1 = nI a ∧ Wf a ≠ 0)) (N := 48) (fun i s hi hs => ?_) 48 0 (-9, 0) (by omega) ⟨by decide, Or.inl rfl⟩
  unfold whS
  by_cases g : Wf i ≤ s.2
  · rw [if_pos g]; exact hs
  · rw [if_neg g]
    have h1 := hs.1
    rw [i_le] at g
    refine ⟨show 0 ≤ (Wf i).toInt by omega, Or.inr ⟨i, hi, rfl, fun q => ?_⟩⟩
    rw [q, show (0 : Int32).toInt = 0 by decide] at g
    omega
/-- sizes that fit, so far -/
def SzI (F : Nat → Bool) (e0 l0 : Int32) (z : Nat) (x4 x5 x6 x7 : Int32) : Prop := (x4 = -9 ∧ ∀ y, 1 ≤ y → y < z → ¬ F y = true) ∨ ∃ u v : Nat, (1 ≤ u ∧ u < z ∧ F u = true ∧ ∀ y, 1 ≤ y → y < u → ¬ F y = true) ∧ (1 ≤ v ∧ v < z ∧ F v = true ∧ ∀ y, v < y → y < z → ¬ F y = true) ∧ x4 = nI u ∧ x5 = nI v ∧ x6 = e0 ∧ x7 = l0
theorem r1_pos (K : BkOK cl fr to lo hi books told n cN) (hn : 1 ≤ n) (T : TmOK d n cN times far a t) (hc : come t n) (hel : eC fr t n ≤ lC to t n) : 0 < (r1 fr to t n).toInt := by
  obtain ⟨⟨e1, e2⟩, e3, e4⟩ := el_rng K hn T hc
  unfold r1
  rw [if_pos hel]
  have es : (lC to t n - eC fr t n).toInt = (lC to t n).toInt - (eC fr t n).toInt := i_sub (by omega) (by omega)
  have e1' : (1 : Int32).toInt = 1 := by decide
  rw [i_add (by omega) (by omega), es, e1']
  rw [i_le] at hel
  omega
theorem sz_loop (Z : SR dp md pc fd tu d p f cl fr to lo hi books told n cN) (T : TmOK d n cN times far a t) (hF : ∀ z, F z = true ↔ fitA d f cN lo hi t n z) (hr : 0 < (r1 fr to t n).toInt) (x1 : Int32) : ∀ (c z fu : Nat) (x4 x5 x6 x7 E L : Int32), z + c = 100 → 1 ≤ z → c < fu → SzI F (eC fr t n) (lC to t n) z x4 x5 x6 x7 → ∃ y4 y5 y6 y7 E' L', SzI F (eC fr t n) (lC to t n) 100 y4 y5 y6 y7 ∧ f_X12_whence_134 books md tu told x1 fu x4 x5 x6 x7 (nI z) E L far = pbr (x1 = 1) (some (y4, E', L', far)) (pbr (x1 = 2) (some (y5, E', L', far)) (pbr (x1 = 3) (some (y6, E', L', far)) (some (y7, E', L', far))))
  | 0, z, fu, x4, x5, x6, x7, E, L, h, hz, hfu, hI => by
    obtain ⟨fu', rfl⟩ : ∃ f, fu = f + 1 := ⟨fu - 1, by omega⟩
    rw [show z = 100 by omega] at hI
    refine ⟨x4, x5, x6, x7, E, L, hI, ?_⟩
    rw [f_X12_whence_134, pbr_pos (show (100 : Int32) ≤ nI z from le_t (a := 100) (by omega))]
  | c + 1, z, fu, x4, x5, x6, x7, E, L, h, hz, hfu, hI => by
    obtain ⟨fu', rfl⟩ : ∃ f, fu = f + 1 := ⟨fu - 1, by omega⟩
    obtain ⟨m1, m2⟩ := mbeg Z T (show z ≤ 99 by omega) E L
    rw [f_X12_whence_134, pbr_neg (show ¬ (100 : Int32) ≤ nI z from le_f (a := 100) (by omega))]
    by_cases g : F z = true
    · have g0 : ¬ r1 fr to t n ≤ 0 := fun q => by
        rw [i_le, show (0 : Int32).toInt = 0 by decide] at q
        omega
      rw [m1 ((hF z).mp g), pcl_some]
      dsimp only
      rw [pbr_neg g0]
      rcases hI with ⟨e4, hno⟩ | ⟨u, v, ⟨u1, u2, u3, u4⟩, ⟨v1, v2, v3, v4⟩, e4, e5, e6, e7⟩
      · rw [pbr_pos e4]
        unfold f_X12_whence_166 f_X12_whence_175 f_X12_whence_193 f_X12_whence_202 f_X12_whence_218
        rw [pbr_pos e4, pbr_pos e4, plt_eq, nI_1]
        refine sz_loop Z T hF hr x1 c (z + 1) fu' _ _ _ _ _ _ (by omega) (by omega) (by omega) (Or.inr ⟨z, z, ⟨hz, by omega, g, fun y y1 y2 => hno y y1 y2⟩, ⟨hz, by omega, g, fun y y1 y2 => absurd y2 (by omega)⟩, rfl, rfl, rfl, rfl⟩)
      · have n4 : ¬ x4 = -9 := by rw [e4]; exact nI_ne9 (by omega)
        have l6 : x6 ≤ eC fr t n := by rw [e6, i_le]; omega
        have l7 : lC to t n ≤ x7 := by rw [e7, i_le]; omega
        rw [pbr_neg n4, pbr_pos l6]
        unfold f_X12_whence_175
        rw [pbr_neg n4, pbr_pos l7]
        unfold f_X12_whence_202 f_X12_whence_218
        rw [pbr_neg n4, plt_eq, nI_1]
        refine sz_loop Z T hF hr x1 c (z + 1) fu' _ _ _ _ _ _ (by omega) (by omega) (by omega) (Or.inr ⟨u, z, ⟨u1, by omega, u3, u4⟩, ⟨hz, by omega, g, fun y y1 y2 => absurd y2 (by omega)⟩, e4, rfl, e6, e7⟩)
    · obtain ⟨E1, L1, q⟩ := m2 (fun q => g ((hF z).mpr q))
      rw [q, pcl_some]
      dsimp only
      rw [pbr_pos (show (0 : Int32) ≤ 0 by decide), plt_eq, nI_1]
      refine sz_loop Z T hF hr x1 c (z + 1) fu' _ _ _ _ _ _ (by omega) (by omega) (by omega) ?_
      rcases hI with ⟨e4, hno⟩ | ⟨u, v, ⟨u1, u2, u3, u4⟩, ⟨v1, v2, v3, v4⟩, e⟩
      · refine Or.inl ⟨e4, fun y y1 y2 => ?_⟩
        by_cases e : y = z
        · subst e; exact g
        · exact hno y y1 (by omega)
      · refine Or.inr ⟨u, v, ⟨u1, by omega, u3, u4⟩, ⟨v1, by omega, v3, fun y y1 y2 => ?_⟩, e⟩
        by_cases e : y = z
        · subst e; exact g
        · exact v4 y y1 (by omega)
theorem ls_loop (Z : SR dp md pc fd tu d p f cl fr to lo hi books told n cN) (T : TmOK d n cN times far a t) (hF : ∀ z, F z = true ↔ fitA d f cN lo hi t n z) {u : Nat} (hu : u ≤ 99) (hFu : F u = true) : ∀ (c z fu : Nat), z + c = u → c < fu → (∀ y, z ≤ y → y < u → ¬ F y = true) → f_X5_leastSize_2 (nI n) fd cl dp lo hi times (nI a) fu (nI z) = some (nI u)
  | 0, z, fu, h, hfu, hno => by
    obtain ⟨fu', rfl⟩ : ∃ f, fu = f + 1 := ⟨fu - 1, by omega⟩
    have e : z = u := by omega
    subst e
    rw [f_X5_leastSize_2, pbr_neg (show ¬ (99 : Int32) < nI z from lt_f (a := 99) (by omega)), (hfit Z T hu).1 ((hF z).mp hFu), pcl_some, pbr_neg (show ¬ (1 : Int32) = 0 by decide)]
  | c + 1, z, fu, h, hfu, hno => by
    obtain ⟨fu', rfl⟩ : ∃ f, fu = f + 1 := ⟨fu - 1, by omega⟩
    rw [f_X5_leastSize_2, pbr_neg (show ¬ (99 : Int32) < nI z from lt_f (a := 99) (by omega)), (hfit Z T (by omega)).2 (fun q => hno z (Nat.le_refl z) (by omega) ((hF z).mpr q)), pcl_some, pbr_pos rfl, plt_eq, nI_1]
    exact ls_loop Z T hF hu hFu c (z + 1) fu' (by omega) (by omega) (fun y y1 y2 => hno y (by omega) y2)
theorem gs_loop (Z : SR dp md pc fd tu d p f cl fr to lo hi books told n cN) (T : TmOK d n cN times far a t) (hF : ∀ z, F z = true ↔ fitA d f cN lo hi t n z) {v : Nat} (hv : 1 ≤ v) (hFv : F v = true) : ∀ (c z fu : Nat), v + c = z → z ≤ 99 → c < fu → (∀ y, v < y → y ≤ z → ¬ F y = true) → f_X5_greatestSize_3 (nI n) fd cl dp lo hi times (nI a) fu (nI z) = some (nI v)
  | 0, z, fu, h, hz, hfu, hno => by
    obtain ⟨fu', rfl⟩ : ∃ f, fu = f + 1 := ⟨fu - 1, by omega⟩
    have e : v = z := by omega
    subst e
    rw [f_X5_greatestSize_3, pbr_neg (show ¬ nI v < (1 : Int32) from lt_f (b := 1) (by omega)), (hfit Z T hz).1 ((hF v).mp hFv), pcl_some, pbr_neg (show ¬ (1 : Int32) = 0 by decide)]
  | c + 1, z, fu, h, hz, hfu, hno => by
    obtain ⟨fu', rfl⟩ : ∃ f, fu = f + 1 := ⟨fu - 1, by omega⟩
    have e1 : nI z + (-1 : Int32) = nI (z - 1) := by
      rw [← nI_sub (b := 1) (by omega)]
      exact (Int32.sub_eq_add_neg _ _).symm
    rw [f_X5_greatestSize_3, pbr_neg (show ¬ nI z < (1 : Int32) from lt_f (b := 1) (by omega)), (hfit Z T hz).2 (fun q => hno z (by omega) (Nat.le_refl z) ((hF z).mpr q)), pcl_some, pbr_pos rfl, plt_eq, e1]
    exact gs_loop Z T hF hv hFv c (z - 1) fu' (by omega) (by omega) (by omega) (fun y y1 y2 => hno y y1 (by omega))
theorem op_whence (h : RDp dp md) {yn ct : Int32} (ht : RTu pc fd yn tu) (hb : RBk 0 cl fr to lo hi ct books told) (times : G32) (far : A32) (e0 l0 x1 : Int32) : ∃ r times' E L far', f_X11_whence x1 ct pc fd cl dp to fr lo hi times = some (r, times') ∧ f_X12_whence x1 e0 l0 books md far tu told = some (r, E, L, far') := by
  have hFU := FU_big
  obtain ⟨n0, -, n2, n3, -⟩ := id hb
  unfold f_X11_whence f_X12_whence
  simp only [within_eq, in_eq, pcl_some, pbr_bI]
  by_cases c1 : 0 ≤ x1 ∧ x1 ≤ 4
  case neg =>
    rw [pbr_neg c1, pbr_neg c1]; exact ⟨_, _, _, _, _, rfl, rfl⟩
  rw [pbr_pos c1, pbr_pos c1, cl_0, n3, ← n2]
  by_cases h0 : ct = 0
  · rw [pbr_pos h0, pbr_pos h0]; exact ⟨_, _, _, _, _, rfl, rfl⟩
  rw [pbr_neg h0, pbr_neg h0]
  obtain ⟨d, p, f, n, cN, m1, Z⟩ := sr_of h ht hb h0
  obtain ⟨times', t1, t2⟩ := meas_eq Z times
  obtain ⟨Wf, hW⟩ := ways_all Z t2
  obtain ⟨k, E, L, far1, q⟩ := mlk_loop Z.1 hW x1 48 0 FU (-9) 0 e0 l0 far (by omega) (by omega)
  have q' : f_X12_whence_29 books md tu told x1 FU (-9) 0 0 e0 l0 far = f_X12_whence_29 books md tu told x1 (k + 1) (foldI (whS Wf) 0 48 (-9, 0)).1 (foldI (whS Wf) 0 48 (-9, 0)).2 (nI 48) E L far1 := q
  have cl1 : f_X5_likeliestCell (nI n) fd to fr cl dp lo hi times' = some (foldI (whS Wf) 0 48 (-9, 0)).1 := whc_loop hW 48 0 FU (-9) 0 (by omega) (by omega)
  have inv := (whc_inv Wf).2
  rw [m1, t1, pcl_some, cl1, pcl_some, q', f_X12_whence_29, pbr_pos (show (48 : Int32) ≤ nI 48 by decide)]
  generalize (foldI (whS Wf) 0 48 (-9, 0)).1 = best at inv ⊢
  unfold f_X12_whence_99
  rcases inv with e | ⟨a, ha, e, hw⟩
  · rw [pbr_pos e, pbr_pos e, pbr_pos e]; exact ⟨_, _, _, _, _, rfl, rfl⟩
  · have hne : ¬ best = -9 := by rw [e]; exact nI_ne9 (by omega)
    rw [pbr_neg hne, pbr_neg hne, pbr_neg hne]
    by_cases x0 : x1 = 0
    · rw [pbr_pos x0, pbr_pos x0]; exact ⟨_, _, _, _, _, rfl, rfl⟩
    rw [pbr_neg x0, pbr_neg x0, e]
    obtain ⟨hc, hel, z, z1, z2, z3⟩ := (hW a ha).2.2.2 hw
    obtain ⟨far2, f1, F2⟩ := begin_eq Z.1 Z.2.1 ha far1
    have T := tm_ok Z.2.2.2.1 t2 ha F2
    obtain ⟨F, hF⟩ := fit_dec d f cN lo hi (tOf times' a) n
    obtain ⟨y4, y5, y6, y7, E', L', hI, s1⟩ := sz_loop Z T hF (r1_pos Z.2.2.2.1 Z.2.2.2.2 T hc hel) x1 99 1 FU (-9) (-9) 0 0 E L (by omega) (by omega) (by omega) (Or.inl ⟨rfl, fun y y1 y2 => absurd y2 (by omega)⟩)
    have s1' : f_X12_whence_134 books md tu told x1 FU (-9) (-9) 0 0 1 E L far2 = pbr (x1 = 1) (some (y4, E', L', far2)) (pbr (x1 = 2) (some (y5, E', L', far2)) (pbr (x1 = 3) (some (y6, E', L', far2)) (some (y7, E', L', far2)))) := s1
    rw [f1, pcl_some, s1']
    rcases hI with ⟨-, hno⟩ | ⟨u, v, ⟨u1, u2, u3, u4⟩, ⟨v1, v2, v3, v4⟩, i4, i5, i6, i7⟩
    · exact absurd ((hF z).mpr z3) (hno z z1 (by omega))
    · have g1 : f_X5_leastSize (nI a) (nI n) fd cl dp lo hi times' = some (nI u) := ls_loop Z T hF (by omega) u3 (u - 1) 1 FU (by omega) (by omega) (fun y y1 y2 => u4 y y1 y2)
      have g2 : f_X5_greatestSize (nI a) (nI n) fd cl dp lo hi times' = some (nI v) := gs_loop Z T hF v1 v3 (99 - v) 99 FU (by omega) (by omega) (by omega) (fun y y1 y2 => v4 y y1 (by omega))
      rw [g1, g2, earliest_eq Z.2.2.2.1 Z.2.2.2.2 T hc, latest_eq Z.2.2.2.1 Z.2.2.2.2 T hc, pcl_some, pcl_some, pcl_some, pcl_some, i4, i5, i6, i7]
      by_cases e1 : x1 = 1
      · rw [pbr_pos e1, pbr_pos e1]; exact ⟨_, _, _, _, _, rfl, rfl⟩
      rw [pbr_neg e1, pbr_neg e1]
      by_cases e2 : x1 = 2
      · rw [pbr_pos e2, pbr_pos e2]; exact ⟨_, _, _, _, _, rfl, rfl⟩
      rw [pbr_neg e2, pbr_neg e2]
      by_cases e3 : x1 = 3
      · rw [pbr_pos e3, pbr_pos e3]; exact ⟨_, _, _, _, _, rfl, rfl⟩
      rw [pbr_neg e3, pbr_neg e3]; exact ⟨_, _, _, _, _, rfl, rfl⟩
end SRCH3
