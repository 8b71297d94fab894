theorem op_like {lr ring : A32} {lc fy rings mfy : Int32} (h1 : RLv lr lc fy ring rings mfy) {wr : G32} {wc en wood woods mends : A32} (h2 : RWd wr wc en wood woods mends) (x1 x2 : Int32) : ∃ r, f_X11_like x1 x2 lc wc lr wr = some r ∧ f_X12_like x1 x2 rings woods wood ring = some r := by
  obtain ⟨n, rfl, rfl, hT⟩ := tr_ok h1 h2
  unfold f_X11_like f_X12_like f_X10_lies
  simp only [isWood_eq, mWood_eq, within_eq, in_eq, pcl_some, pbr_bI]
  by_cases c1 : 0 ≤ x1 ∧ x1 ≤ 3
  case neg =>
    rw [pbr_neg c1, pbr_neg c1]; exact ⟨_, rfl, rfl⟩
  rw [pbr_pos c1, pbr_pos c1]
  obtain ⟨w, -, hw, rfl⟩ := of_span (a := 0) (b := 3) (by omega) (by omega) c1.1 c1.2
  obtain ⟨k, H⟩ := hT w (by omega)
  have H' := H
  obtain ⟨n1, -, k1, k2, k3, -⟩ := H'
  rw [pgd_pos (pin_nI (by omega) (by omega)), pgd_pos (pin_nI (by omega) (by omega))]
  simp only [nI_cl (show w < 2147483648 by omega), k2, k3]
  by_cases hk : k < 2
  · rw [pbr_pos (show nI k < 2 from lt_t (b := 2) hk), pcl_some, pbr_pos rfl, pbr_pos (show nI k ≤ 1 from le_t (b := 1) (by omega))]
    exact ⟨_, rfl, rfl⟩
  rw [pbr_neg (show ¬ nI k < 2 from lt_f (b := 2) (by omega)), pbr_neg (show ¬ nI k ≤ 1 from le_f (b := 1) (by omega))]
  by_cases c2 : 0 ≤ x2 ∧ x2 ≤ nI n - nI k
  case neg =>
    rw [pbr_neg c2, pbr_neg c2, pcl_some, pbr_pos rfl]; exact ⟨_, rfl, rfl⟩
  rw [pbr_pos c2, pbr_pos c2, pcl_some, pbr_neg (show ¬ (1 : Int32) = 0 by decide)]
  have hkn : k ≤ n := by
    have a := c2.1
    have b := c2.2
    rw [i_le] at a b
    rw [nk_int n1 k1] at b
    rw [show (0 : Int32).toInt = 0 by decide] at a
    omega
  rw [nI_sub hkn] at c2
  obtain ⟨o, -, ho, rfl⟩ := of_span (a := 0) (b := n - k) (by omega) (by omega) c2.1 c2.2
  obtain ⟨q1, q2⟩ := like_eq H (o := o) (by omega) (by omega)
  rw [q1, q2]
  exact ⟨_, rfl, rfl⟩
theorem op_died {lr ring : A32} {lc fy rings mfy : Int32} (h1 : RLv lr lc fy ring rings mfy) {wr : G32} {wc en wood woods mends : A32} (h2 : RWd wr wc en wood woods mends) (x1 x2 : Int32) : ∃ r, f_X11_died x1 x2 lc fy wc lr en wr = some r ∧ f_X12_died x1 x2 mfy rings woods wood ring mends = some r := by
  obtain ⟨n, rfl, rfl, hT⟩ := tr_ok h1 h2
  obtain ⟨y, -, rfl, rfl⟩ := h1.2
  unfold f_X11_died f_X12_died f_X10_lastYear
  simp only [isWood_eq, mWood_eq, within_eq, in_eq, pcl_some, pbr_bI]
  by_cases c1 : 0 ≤ x1 ∧ x1 ≤ 3
  case neg =>
    rw [pbr_neg c1, pbr_neg c1]; exact ⟨_, rfl, rfl⟩
  rw [pbr_pos c1, pbr_pos c1]
  obtain ⟨w, -, hw, rfl⟩ := of_span (a := 0) (b := 3) (by omega) (by omega) c1.1 c1.2
  obtain ⟨k, H⟩ := hT w (by omega)
  obtain ⟨q1, q2⟩ := laid_eq H
  obtain ⟨n1, -, k1, k2, k3, -⟩ := H
  by_cases c2 : 0 ≤ x2 ∧ x2 ≤ 2
  case neg =>
    rw [pbr_neg c2, pbr_neg c2]; exact ⟨_, rfl, rfl⟩
  rw [pbr_pos c2, pbr_pos c2, q1, q2, pcl_some, pcl_some]
  generalize laid _ _ n k = L
  by_cases e : L = -9
  · rw [pbr_pos e, pbr_pos e]; exact ⟨_, rfl, rfl⟩
  rw [pbr_neg e, pbr_neg e]
  by_cases e0 : x2 = 0
  · rw [pbr_pos e0, pbr_pos e0]; exact ⟨_, rfl, rfl⟩
  rw [pbr_neg e0, pbr_neg e0, pgd_pos (pin_nI (by omega) (by omega)), pgd_pos (pin_nI (by omega) (by omega)), pgd_pos (pin_nI (by omega) (by omega)), pcl_some]
  simp only [nI_cl (show w < 2147483648 by omega), k2, k3, (h2 w (by omega)).2.1]
  by_cases e1 : x2 = 1
  · rw [pbr_pos e1, pbr_pos e1]; exact ⟨_, rfl, rfl⟩
  rw [pbr_neg e1, pbr_neg e1, pgd_pos (pin_nI (by omega) (by omega))]; exact ⟨_, rfl, rfl⟩
theorem malike0 {fy rings : Int32} {woods wood ring ends : A32} (hl : ∀ w, w < 4 → ∃ L k : _, f_X12_laidOf (nI w) rings woods wood ring = some L ∧ woods w = nI k) : ∀ (c i fu : Nat) (x1 x2 : Int32), i + c = 4 → c < fu → f_X12_alike_11 fy rings woods wood ring ends fu x1 x2 0 (nI i) = some (-9)
  | 0, i, fu, x1, x2, h, hfu => by
    obtain ⟨f, rfl⟩ : ∃ f, fu = f + 1 := ⟨fu - 1, by omega⟩
    rw [f_X12_alike_11, show i = 4 by omega, pbr_pos (show (4 : Int32) ≤ nI 4 by decide), pbr_pos rfl]
  | c + 1, i, fu, x1, x2, h, hfu => by
    obtain ⟨f, rfl⟩ : ∃ f, fu = f + 1 := ⟨fu - 1, by omega⟩
    obtain ⟨L, k, l1, l2⟩ := hl i (by omega)
    rw [f_X12_alike_11, pbr_neg (show ¬ (4 : Int32) ≤ nI i from le_f (a := 4) (by omega)), l1, pcl_some]
    simp only [f_X12_alike_82, f_X12_alike_83, plt_eq, nI_1, nI_cl (show i < 2147483648 by omega)]
    by_cases e : L = -9
    · rw [pbr_pos e]
      exact malike0 hl c (i + 1) f _ _ (by omega) (by omega)
    · rw [pbr_neg e, pgd_pos (pin_nI (by omega) (by omega)), pbr_T, pgd_pos (pin_nI (by omega) (by omega))]
      exact malike0 hl c (i + 1) f _ _ (by omega) (by omega)
theorem last_ne {y j k : Nat} (hy : y ≤ 9999) (hj : j ≤ 60) (hk : k ≤ 30) (hk2 : 2 ≤ k) : ¬ nI y + nI j + nI k - 1 = -9 := by
  rw [nI_add, nI_add]
  obtain ⟨q, hq⟩ : ∃ q, y + j + k = q + 1 := ⟨y + j + k - 1, by omega⟩
  rw [hq, nI_pred]
  intro e
  rw [i_eq, nI_int (by omega), show (-9 : Int32).toInt = -9 by decide] at e
  omega
theorem alike_go {lr ring : A32} {wr : G32} {wc wood woods en mends : A32} {n y : Nat} (hy : y ≤ 9999) (he : ∀ w, w < 4 → en w = mends w) (hT : ∀ w, w < 4 → ∃ k g h, TrOK lr ring wr wc wood woods n w k g h) : ∀ (c i fu fv : Nat) (x1 x2 : Int32), i + c = 4 → c < fu → c < fv → ∃ r, f_X10_sharedDeath_8 (nI n) (nI y) wc lr en wr fu x1 x2 (nI i) = some r ∧ f_X12_alike_11 (nI y) (nI n) woods wood ring mends fv x1 x2 1 (nI i) = some r
  | 0, i, fu, fv, x1, x2, h, hfu, hfv => by
    obtain ⟨f, rfl⟩ : ∃ f, fu = f + 1 := ⟨fu - 1, by omega⟩
    obtain ⟨f', rfl⟩ : ∃ f, fv = f + 1 := ⟨fv - 1, by omega⟩
    rw [f_X12_alike_11, f_X10_sharedDeath_8, show i = 4 by omega, pbr_pos (show (4 : Int32) ≤ nI 4 by decide), pbr_pos (show (4 : Int32) ≤ nI 4 by decide), pbr_neg (show ¬ (1 : Int32) = 0 by decide)]
    exact ⟨_, rfl, rfl⟩
  | c + 1, i, fu, fv, x1, x2, h, hfu, hfv => by
    obtain ⟨f, rfl⟩ : ∃ f, fu = f + 1 := ⟨fu - 1, by omega⟩
    obtain ⟨f', rfl⟩ : ∃ f, fv = f + 1 := ⟨fv - 1, by omega⟩
    obtain ⟨k, g, hh, H⟩ := hT i (by omega)
    obtain ⟨q1, q2⟩ := laid_eq H
    obtain ⟨n1, -, k1, k2, k3, -⟩ := H
    have hl : ∀ w, w < 4 → ∃ L k : _, f_X12_laidOf (nI w) (nI n) woods wood ring = some L ∧ woods w = nI k := fun w hw => by
      obtain ⟨k, g, hh, H⟩ := hT w hw
      exact ⟨_, k, (laid_eq H).2, H.2.2.2.2.1⟩
    rw [f_X12_alike_11, f_X10_sharedDeath_8, pbr_neg (show ¬ (4 : Int32) ≤ nI i from le_f (a := 4) (by omega)), pbr_neg (show ¬ (4 : Int32) ≤ nI i from le_f (a := 4) (by omega)), q1, q2, pcl_some, pcl_some]
    simp only [f_X12_alike_82, f_X12_alike_78, f_X12_alike_83, f_X10_lastYear, plt_eq, nI_1, nI_cl (show i < 2147483648 by omega), k2, k3, he i (by omega)]
    by_cases e : laid g hh n k = -9
    · rw [pbr_pos e, pbr_pos e]
      exact alike_go hy he hT c (i + 1) f f' _ _ (by omega) (by omega) (by omega)
    · have hk2 : 2 ≤ k := by
        unfold laid at e
        by_cases q : 2 ≤ k
        · exact q
        · rw [if_neg q] at e; exact absurd rfl e
      obtain ⟨j, hj, ej⟩ := (laid_rng g hh (k := k) n1).resolve_left e
      have hne := last_ne hy hj k1 hk2
      rw [pbr_neg e, pbr_neg e, pgd_pos (pin_nI (by omega) (by omega)), pgd_pos (pin_nI (by omega) (by omega)), pgd_pos (pin_nI (by omega) (by omega)), pcl_some, pcl_some, pgd_pos (pin_nI (by omega) (by omega)), pgd_pos (pin_nI (by omega) (by omega)), pbr_neg (show ¬ (1 : Int32) = 0 by decide)]
      rw [← ej] at hne
      generalize nI y + laid g hh n k + nI k - 1 = z at *
      by_cases e9 : x1 = -9
      · rw [pbr_pos e9, pbr_pos e9, pgd_pos (pin_nI (by omega) (by omega))]
        exact alike_go hy he hT c (i + 1) f f' _ _ (by omega) (by omega) (by omega)
      · rw [pbr_neg e9, pbr_neg e9]
        by_cases ez : x1 = z
        · rw [pbr_pos ez, pbr_pos ez]
          by_cases ee : x2 = mends i
          · rw [pbr_pos ee, pbr_pos ee, ← ee, ← ez, pgd_pos (pin_nI (by omega) (by omega))]
            exact alike_go hy he hT c (i + 1) f f' _ _ (by omega) (by omega) (by omega)
          · rw [pbr_neg ee, pbr_neg ee, malike0 hl c (i + 1) f' _ _ (by omega) (by omega)]
            exact ⟨_, rfl, rfl⟩
        · rw [pbr_neg ez, pbr_neg ez, malike0 hl c (i + 1) f' _ _ (by omega) (by omega)]
          exact ⟨_, rfl, rfl⟩
theorem op_alike {lr ring : A32} {lc fy rings mfy : Int32} (h1 : RLv lr lc fy ring rings mfy) {wr : G32} {wc en wood woods mends : A32} (h2 : RWd wr wc en wood woods mends) : ∃ r, f_X11_alike lc fy wc lr en wr = some r ∧ f_X12_alike mfy rings woods wood ring mends = some r := by
  obtain ⟨n, rfl, rfl, hT⟩ := tr_ok h1 h2
  obtain ⟨y, hy, rfl, rfl⟩ := h1.2
  obtain ⟨r, r1, r2⟩ := alike_go hy (fun w hw => (h2 w hw).2.1) (fun w hw => by obtain ⟨k, H⟩ := hT w hw; exact ⟨k, _, _, H⟩) 4 0 FU FU (-9) (-9) (by omega) (by have := FU_big; omega) (by have := FU_big; omega)
  refine ⟨r, ?_, r2⟩
  unfold f_X11_alike f_X10_sharedDeath
  rw [show (0 : Int32) = nI 0 from rfl, r1, pcl_some]
