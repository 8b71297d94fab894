/-! ===== short words ===== -/
theorem le_t {a b : Nat} (h : a ≤ b) (hb : b < 2147483648 := by omega) : nI a ≤ nI b := (nI_le_iff (by omega) hb).mpr h
theorem le_f {a b : Nat} (h : b < a) (ha : a < 2147483648 := by omega) : ¬ nI a ≤ nI b := fun q => absurd ((nI_le_iff ha (by omega)).mp q) (by omega)
theorem lt_t {a b : Nat} (h : a < b) (hb : b < 2147483648 := by omega) : nI a < nI b := (nI_lt_iff (by omega) hb).mpr h
theorem lt_f {a b : Nat} (h : b ≤ a) (ha : a < 2147483648 := by omega) : ¬ nI a < nI b := fun q => absurd ((nI_lt_iff ha (by omega)).mp q) (by omega)
theorem eq_f {a b : Nat} (h : a ≠ b) (ha : a < 2147483648 := by omega) (hb : b < 2147483648 := by omega) : ¬ nI a = nI b := fun q => absurd ((nI_eq_iff ha hb).mp q) h
theorem below {x : Int32} {n : Nat} (hn : n < 2147483648) (h : 0 ≤ x ∧ x ≤ nI n - 1) : ∃ y : Nat, y < n ∧ x = nI y := by
  obtain ⟨h1, h2⟩ := h
  rcases Nat.eq_zero_or_pos n with rfl | hp
  · rw [i_le] at h1 h2
    have e0 : (0 : Int32).toInt = 0 := by decide
    have e1 : (nI 0 - 1 : Int32).toInt = -1 := by decide
    rw [e0] at h1; rw [e1] at h2
    omega
  · obtain ⟨k, rfl⟩ : ∃ k, n = k + 1 := ⟨n - 1, by omega⟩
    rw [nI_pred] at h2
    obtain ⟨j, -, j2, rfl⟩ := of_span (a := 0) (b := k) (by omega) (by omega) h1 h2
    exact ⟨j, by omega, rfl⟩
/-! ===== days ===== -/
def sI (g : A32) (n : Nat) (a : Int32) : Int32 := fold (fun j s => s + g j) n a
theorem sI_add (g : A32) (a : Int32) : ∀ n : Nat, sI g n a = a + sI g n 0
  | 0 => (Int32.add_zero a).symm
  | n + 1 => by
    show sI g n a + g n = a + (sI g n 0 + g n)
    rw [sI_add g a n, Int32.add_assoc]
theorem sI_congr {g h : A32} {n : Nat} (e : ∀ j, j < n → g j = h j) (a : Int32) : sI g n a = sI h n a := fold_congr (fun i hi s => by rw [e i hi]) a
theorem daysOf_eq {y m : Nat} (hy : y < 8) (hm : m ≤ 13) (lg : G32) : f_X1_daysOf (nI y) (nI m) lg = some (sI (lg y) m 0) := by
  refine loop_up0 (fun k i s => f_X1_daysOf_5 lg (nI y) (nI m) k s i) _ some m (by omega) (fun k s => ?_) (fun k i s h => ?_) 0
  · show f_X1_daysOf_5 lg (nI y) (nI m) (k + 1) s (nI m) = _
    rw [f_X1_daysOf_5, pbr_pos (le_t (by omega))]
  · show f_X1_daysOf_5 lg (nI y) (nI m) (k + 1) s (nI i) = f_X1_daysOf_5 lg (nI y) (nI m) k _ (nI (i + 1))
    rw [f_X1_daysOf_5, pbr_neg (le_f h), pgd_pos (pin_nI (by omega) (by omega)), pgd_pos (pin_nI (by omega) (by omega))]
    simp only [nI_cl (show i < 2147483648 by omega), nI_cl (show y < 2147483648 by omega), plt_eq, nI_1]
theorem daysAhead_eq {y m : Nat} (hy : y < 8) (hm : m ≤ 13) (lg : G32) {mo : A32} (hk : ∀ i, i < y → ∃ k : Nat, k ≤ 13 ∧ mo i = nI k) (x3 : Int32) : f_X1_daysAhead (nI y) (nI m) x3 mo lg = some (fold (fun i a => a + sI (lg i) (mo i).toNatClampNeg 0) y x3 + sI (lg y) m 0) := by
  refine loop_up0 (fun k i s => f_X1_daysAhead_6 mo lg (nI y) (nI m) x3 k s i) _ (fun a => some (a + sI (lg y) m 0)) y (by omega) (fun k s => ?_) (fun k i s h => ?_) x3
  · show f_X1_daysAhead_6 mo lg (nI y) (nI m) x3 (k + 1) s (nI y) = _
    rw [f_X1_daysAhead_6, pbr_pos (le_t (by omega)), daysOf_eq hy hm, pcl_some]
  · show f_X1_daysAhead_6 mo lg (nI y) (nI m) x3 (k + 1) s (nI i) = f_X1_daysAhead_6 mo lg (nI y) (nI m) x3 k _ (nI (i + 1))
    obtain ⟨q, q1, q2⟩ := hk i h
    rw [f_X1_daysAhead_6, pbr_neg (le_f h), pgd_pos (pin_nI (by omega) (by omega))]
    simp only [nI_cl (show i < 2147483648 by omega), q2, daysOf_eq (show i < 8 by omega) q1, pcl_some, plt_eq, nI_1, nI_cl (show q < 2147483648 by omega)]
theorem mclock_in {y m : Nat} (hy : y < 8) (hm : m ≤ 13) (r : Int32 → Int32 → Option Int32) (years months : A32) (x1 x2 x3 x4 x5 : Int32) : f_X12_clock_109 r years months x1 x2 x3 x4 FU x5 (nI y) (nI m) 0 = r (sI (fun j => months (14 * y + 1 + j)) m x5) (nI (y + 1)) := by
  refine loop_up0 (fun k i s => f_X12_clock_109 r years months x1 x2 x3 x4 k s (nI y) (nI m) i) _ (fun s => r s (nI (y + 1))) m (by omega) (fun k s => ?_) (fun k i s h => ?_) x5
  · show f_X12_clock_109 r years months x1 x2 x3 x4 (k + 1) s (nI y) (nI m) (nI m) = _
    rw [f_X12_clock_109, pbr_pos (le_t (by omega))]
    simp only [plt_eq, nI_1]
  · show f_X12_clock_109 r years months x1 x2 x3 x4 (k + 1) s (nI y) (nI m) (nI i) = f_X12_clock_109 r years months x1 x2 x3 x4 k _ (nI y) (nI m) (nI (i + 1))
    have e : (14 : Int32) * nI y + 1 + nI i = nI (14 * y + 1 + i) := by rw [show (14 : Int32) = nI 14 from rfl, nI_mul, nI_1, nI_add]
    rw [f_X12_clock_109, pbr_neg (le_f h)]
    simp only [e]
    rw [pgd_pos (pin_nI (by omega) (by omega))]
    simp only [nI_cl (show 14 * y + 1 + i < 2147483648 by omega), plt_eq, nI_1]
theorem op_clock {lg : G32} {mo months years : A32} {yr : Int32} (h : RCa lg mo yr months years) (x1 x2 x3 x4 : Int32) : ∃ r, f_X11_clock x1 x2 x3 x4 yr mo lg = some r ∧ f_X12_clock x1 x2 x3 x4 years months = some r := by
  obtain ⟨n, n1, rfl, n2, hn⟩ := h
  unfold f_X11_clock f_X12_clock f_X1_hasDay
  simp only [within_eq, in_eq, pcl_some, pbr_bI, cl_0, n2]
  by_cases c1 : 0 ≤ x1 ∧ x1 ≤ nI n - 1
  case neg =>
    simp only [pbr_neg c1, pcl_some]
    rw [pbr_T]
    exact ⟨_, rfl, rfl⟩
  obtain ⟨y, hy, rfl⟩ := below (by omega) c1
  obtain ⟨k, k1, k2, k3, k4, k5⟩ := hn y hy
  have e14 : (14 : Int32) * nI y = nI (14 * y) := by rw [show (14 : Int32) = nI 14 from rfl, nI_mul]
  simp only [pbr_pos c1, e14, nI_cl (show y < 2147483648 by omega), nI_cl (show 14 * y < 2147483648 by omega), k3, k4]
  rw [pgd_pos (pin_nI (by omega) (by omega)), pgd_pos (pin_nI (by omega) (by omega))]
  by_cases c2 : 0 ≤ x2 ∧ x2 ≤ nI k - 1
  case neg =>
    simp only [pbr_neg c2, pcl_some]
    rw [pbr_T]
    exact ⟨_, rfl, rfl⟩
  obtain ⟨m, hm, rfl⟩ := below (by omega) c2
  obtain ⟨v, v1, v2, v3, v4⟩ := k5 m hm
  simp only [pbr_pos c2, nI_1, nI_add, nI_cl (show m < 2147483648 by omega), nI_cl (show 14 * y + 1 + m < 2147483648 by omega), v3, v4]
  rw [pgd_pos (pin_nI (by omega) (by omega)), pgd_pos (pin_nI (by omega) (by omega))]
  by_cases c3 : 0 ≤ x3 ∧ x3 ≤ nI v - 1
  case neg =>
    simp only [pbr_neg c3, pcl_some]
    rw [pbr_T]
    exact ⟨_, rfl, rfl⟩
  simp only [pbr_pos c3, pcl_some]
  rw [pbr_neg (show ¬ (1 : Int32) = 0 by decide)]
  by_cases c4 : 0 ≤ x4 ∧ x4 ≤ 11
  case neg =>
    rw [pbr_neg c4, pbr_neg c4]
    exact ⟨_, rfl, rfl⟩
  rw [pbr_pos c4, pbr_pos c4, daysAhead_eq (by omega) (by omega) lg (fun i hi => by
    obtain ⟨q, q1, q2, q3, -⟩ := hn i (by omega)
    exact ⟨q, q2, q3⟩), pcl_some]
  refine ⟨_, rfl, ?_⟩
  have hsum : ∀ i q, i < n → mo i = nI q → q ≤ 13 → (∀ m, m < q → lg i m = months (14 * i + 1 + m)) := by
    intro i q hi hq hq2 m hm
    obtain ⟨a, a1, a2, a3, a4, a5⟩ := hn i hi
    have : a = q := (nI_eq_iff (by omega) (by omega)).mp (a3.symm.trans hq)
    subst this
    obtain ⟨w, -, -, w3, w4⟩ := a5 m hm
    rw [w3, w4]
  have key := loop_up0 (fun k i s => f_X12_clock_78 years months (nI y) (nI m) x3 x4 k s i) (fun i a => if i < y then a + sI (lg i) (mo i).toNatClampNeg 0 else a + sI (lg y) m 0) (fun s => some (1440 * s + 120 * x4 - 60)) (y + 1) (by omega) (fun fu s => ?_) (fun fu i s hi => ?_) x3
  · refine Eq.trans key ?_
    show some (1440 * (if y < y then _ else _) + 120 * x4 - 60) = _
    rw [if_neg (Nat.lt_irrefl y), fold_congr (g := fun i a => a + sI (lg i) (mo i).toNatClampNeg 0) (fun i hi s => if_pos hi), Int32.mul_comm 1440, Int32.mul_comm 120]
  · show f_X12_clock_78 years months (nI y) (nI m) x3 x4 (fu + 1) s (nI (y + 1)) = _
    rw [f_X12_clock_78, pbr_pos (lt_t (by omega))]
  · show f_X12_clock_78 years months (nI y) (nI m) x3 x4 (fu + 1) s (nI i) = f_X12_clock_78 years months (nI y) (nI m) x3 x4 fu (if i < y then s + sI (lg i) (mo i).toNatClampNeg 0 else s + sI (lg y) m 0) (nI (i + 1))
    rw [f_X12_clock_78, pbr_neg (lt_f (by omega))]
    by_cases e : i < y
    · obtain ⟨q, q1, q2, q3, q4, q5⟩ := hn i (by omega)
      have e14' : (14 : Int32) * nI i = nI (14 * i) := by rw [show (14 : Int32) = nI 14 from rfl, nI_mul]
      rw [if_pos e, pbr_neg (le_f e)]
      simp only [e14', nI_cl (show 14 * i < 2147483648 by omega), q4, plt_eq]
      rw [pgd_pos (pin_nI (by omega) (by omega)), mclock_in (by omega) (by omega), q3, nI_cl (by omega), sI_add _ s, sI_congr (hsum i q (by omega) q3 q2)]
    · have : i = y := by omega
      subst this
      rw [if_neg e, pbr_pos (le_t (by omega)), mclock_in (by omega) (by omega), sI_add _ s, sI_congr (fun j hj => hsum i k (by omega) k3 k2 j (by omega))]
