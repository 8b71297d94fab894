theorem RCa.ok {lg : G32} {mo months years : A32} {yr : Int32} (h : RCa lg mo yr months years) : ∃ n, yr = nI n ∧ CalOK lg mo months years n (fun y m => (lg y m).toNatClampNeg) (fun y => (mo y).toNatClampNeg) := by
  obtain ⟨n, n1, rfl, n2, hn⟩ := h
  refine ⟨n, rfl, n1, n2, fun y hy => ?_, fun y m hy hm => ?_⟩
  · obtain ⟨k, k1, k2, k3, k4, -⟩ := hn y hy
    have e : (mo y).toNatClampNeg = k := by rw [k3, nI_cl (by omega)]
    simp only [e]
    exact ⟨k1, k2, k3, k4⟩
  · obtain ⟨k, k1, k2, k3, k4, k5⟩ := hn y hy
    have e : (mo y).toNatClampNeg = k := by rw [k3, nI_cl (by omega)]
    simp only [e] at hm
    obtain ⟨v, v1, v2, v3, v4⟩ := k5 m hm
    have e2 : (lg y m).toNatClampNeg = v := by rw [v3, nI_cl (by omega)]
    simp only [e2]
    exact ⟨v1, v2, v3, v4⟩
theorem neg_int : ∀ b : Nat, b < 61 → (-(nI b)).toInt = -(b : Int) := by decide +kernel
theorem neg_div : ∀ b : Nat, b < 61 → -(nI b) / 120 = 0 := by decide +kernel
theorem neg_rem : ∀ b : Nat, b < 61 → -(nI b) - -(nI b) / 120 * 120 < 60 := by decide +kernel
/-- hours since the first, on the model's side -/
theorem mhour {x1 : Int32} {t : Nat} (h : x1.toInt + 60 = t) (years months : A32) (x2 : Int32) : (pbr ((x1 - x1 / 120 * 120) < 60) (f_X12_told_36 years months x1 x2 (x1 / 120) 0) (f_X12_told_36 years months x1 x2 (x1 / 120) 1)) = f_X12_told_47 years months x1 x2 FU (nI (t / 120)) (nI (t / 1440)) (nI 0) := by
  have hr := i_rng x1
  have d12 : nI (t / 120) / 12 = nI (t / 1440) := by
    rw [show (12 : Int32) = nI 12 from rfl, pk_div (by omega) (by omega) (by omega), Nat.div_div_eq_div_mul]
  by_cases hp : 0 ≤ x1.toInt
  · obtain ⟨a, ha⟩ : ∃ a : Nat, x1.toInt = a := ⟨x1.toInt.toNat, by omega⟩
    have e : x1 = nI a := by rw [i_eq, nI_int (by omega), ha]
    subst e
    have e1 : nI a - nI a / 120 * 120 = nI (a % 120) := pk_rem (d := 120) (by omega) (by omega) (by omega)
    have e2 : nI a / 120 = nI (a / 120) := pk_div (d := 120) (by omega) (by omega) (by omega)
    rw [e1]
    simp only [e2, f_X12_told_36, plt_eq]
    by_cases hm : a % 120 < 60
    · rw [pbr_pos (show nI (a % 120) < 60 from lt_t (b := 60) hm), Int32.add_zero, show a / 120 = t / 120 by omega, d12]
      rfl
    · rw [pbr_neg (show ¬ nI (a % 120) < 60 from lt_f (b := 60) (by omega)), nI_1, show a / 120 + 1 = t / 120 by omega, d12]
      rfl
  · obtain ⟨b, hb⟩ : ∃ b : Nat, x1.toInt = -(b : Int) := ⟨(-x1.toInt).toNat, by omega⟩
    have hb2 : b < 61 := by omega
    have e : x1 = -(nI b) := by rw [i_eq, neg_int b hb2, hb]
    rw [pbr_pos (by rw [e]; exact neg_rem b hb2), show x1 / 120 = 0 by rw [e]; exact neg_div b hb2]
    simp only [f_X12_told_36, plt_eq]
    have t0 : t / 120 = 0 := by omega
    have t1 : t / 1440 = 0 := by omega
    rw [t0, t1]
    rfl
theorem long60 {x1 : Int32} {t : Nat} (h : x1.toInt + 60 = t) : x1.toInt64 + 60 = lN t := by
  have hr := i_rng x1
  rw [← Int64.toInt_inj, Int64.toInt_add, Int32.toInt_toInt64, pk_lT (by omega), show (60 : Int64).toInt = 60 by decide, h]
  exact Int.bmod_eq_of_le (by omega) (by omega)
theorem op_told {lg : G32} {mo months years : A32} {yr : Int32} (h : RCa lg mo yr months years) (x1 x2 : Int32) : ∃ r, f_X11_told x1 x2 yr mo lg = some r ∧ f_X12_told x1 x2 years months = some r := by
  obtain ⟨n, rfl, H⟩ := h.ok
  generalize (fun y m => (lg y m).toNatClampNeg) = l at H
  generalize (fun y => (mo y).toNatClampNeg) = k at H
  have hn : n ≤ 8 := H.1
  have hr := i_rng x1
  unfold f_X11_told f_X12_told
  simp only [within_eq, in_eq, pcl_some, pbr_bI]
  have e60 : (-60 : Int32).toInt = -60 := by decide
  by_cases c1 : -60 ≤ x1
  case neg =>
    rw [pbr_neg c1, pbr_pos (show x1 < -60 from by rw [i_le] at c1; rw [i_lt]; omega)]
    by_cases c2 : 0 ≤ x2 ∧ x2 ≤ 3
    · rw [pbr_pos c2]; exact ⟨_, rfl, rfl⟩
    · rw [pbr_neg c2]; exact ⟨_, rfl, rfl⟩
  rw [pbr_pos c1, pbr_neg (show ¬ x1 < -60 from by rw [i_le] at c1; rw [i_lt]; omega)]
  by_cases c2 : 0 ≤ x2 ∧ x2 ≤ 3
  case neg =>
    rw [pbr_neg c2, pbr_neg c2]; exact ⟨_, rfl, rfl⟩
  rw [pbr_pos c2, pbr_pos c2]
  obtain ⟨t, ht⟩ : ∃ t : Nat, x1.toInt + 60 = t := ⟨(x1.toInt + 60).toNat, by rw [i_le] at c1; omega⟩
  obtain ⟨A1, A2⟩ := allDays_eq H
  rw [mhour ht, mt_out H x1 x2 _ n 0 (t / 1440) FU (by omega) (by have := FU_big; omega) (by omega)]
  have e1 : lN t / 1440 = lN (t / 1440) := pk_lDiv (b := 1440) (by omega) (by omega) (by omega)
  have e2 : (lN t - lN (t / 1440) * 1440) / 120 = lN (t % 1440 / 120) := by
    rw [← e1]
    exact (congrArg (· / (120 : Int64)) (pk_lRem (b := 1440) (by omega) (by omega) (by omega))).trans (pk_lDiv (b := 120) (by omega) (by omega) (by omega))
  simp only [long60 ht, plt_eq, A1, pcl_some, e1, e2, lN_i]
  rw [nI_l (by omega)]
  rcases wO_out l k n 0 (t / 1440) with ⟨g1, g2⟩ | ⟨g1, v, g2⟩
  · rw [pbr_neg (fun q => absurd ((pk_lLT (by omega) (by omega)).mp ((lg_cmp_lt _ _).mp q)) (by omega)), g2]
    exact ⟨_, rfl, rfl⟩
  · rw [pbr_pos ((lg_cmp_lt _ _).mpr ((pk_lLT (by omega) (by omega)).mpr g1))]
    unfold f_X1_partOfDay
    rw [show (0 : Int32) = nI 0 from rfl, pod_out H (nI (t / 1440)) x2 n 0 (t / 1440) FU (by omega) (by have := FU_big; omega) (by omega), g2, pcl_some]
    obtain ⟨j, -, j2, rfl⟩ := of_span (a := 0) (b := 3) (by omega) (by omega) c2.1 c2.2
    rcases (show j = 0 ∨ j = 1 ∨ j = 2 ∨ j = 3 by omega) with rfl | rfl | rfl | rfl
    · rw [pbr_neg (show ¬ nI 0 = 3 by decide)]
      exact ⟨_, rfl, rfl⟩
    · rw [pbr_neg (show ¬ nI 1 = 3 by decide)]
      exact ⟨_, rfl, rfl⟩
    · rw [pbr_neg (show ¬ nI 2 = 3 by decide)]
      exact ⟨_, rfl, rfl⟩
    · rw [pbr_pos (show nI 3 = 3 by decide)]
      refine ⟨_, rfl, ?_⟩
      show some (nI (t / 120) - nI (t / 120) / nI 12 * nI 12) = _
      rw [pk_rem (by omega) (by omega) (by omega), show t / 120 % 12 = t % 1440 / 120 by omega]
