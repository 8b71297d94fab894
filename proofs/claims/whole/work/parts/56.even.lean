/-! ===== even ===== -/
theorem ev_class {yr known knowns : A32} {n : Nat} {y : Nat → Nat} (H : KnOK yr known knowns n y) (hn : 1 ≤ n) : f_X3_evenness_19 (nI n) yr FU 9999 0 1 = (fun t : Nat × Nat => pbr (nI t.2 = 0) (some (-9)) (pgd (¬ nI t.2 = 0) (some (1000 * nI t.1 / nI t.2)))) (mnF (fun _ => true) (gp y) (n - 1) 9999, mxF (fun _ => true) (gp y) (n - 1) 0) := by
  have H' := H
  obtain ⟨n1, n2, hy, hm⟩ := H'
  have key := (loop_upI (fun fu i (t : Nat × Nat) => f_X3_evenness_19 (nI n) yr fu (nI t.1) (nI t.2) i) (fun i t => ((if gp y (i - 1) < t.1 then gp y (i - 1) else t.1), (if t.2 < gp y (i - 1) then gp y (i - 1) else t.2))) (fun t : Nat × Nat => pbr (nI t.2 = 0) (some (-9)) (pgd (¬ nI t.2 = 0) (some (1000 * nI t.1 / nI t.2)))) (fun i t => 1 ≤ i ∧ t.1 ≤ 9999 ∧ t.2 ≤ 9999) n (fun fu t _ => ?_) (fun fu i t hi hI => ?_) (n - 1) 1 FU (9999, 0) (by omega) (by have := FU_big; omega) ⟨Nat.le_refl 1, Nat.le_refl _, Nat.zero_le _⟩).1
  · refine Eq.trans key ?_
    rw [foldI_shift]
    have e : ∀ d, fold (fun j (t : Nat × Nat) => ((if gp y (j + 1 - 1) < t.1 then gp y (j + 1 - 1) else t.1), (if t.2 < gp y (j + 1 - 1) then gp y (j + 1 - 1) else t.2))) d (9999, 0) = (mnF (fun _ => true) (gp y) d 9999, mxF (fun _ => true) (gp y) d 0) := fun d => by
      unfold mnF mxF
      induction d with
      | zero => rfl
      | succ d ih =>
        simp only [fold]
        rw [ih]
        rfl
    rw [e]
  · show f_X3_evenness_19 (nI n) yr (fu + 1) (nI t.1) (nI t.2) (nI n) = _
    rw [f_X3_evenness_19, pbr_pos (le_t (by omega))]
  · obtain ⟨t1, t2⟩ := t
    obtain ⟨hI1, hI2, hI3⟩ := hI
    have hI2' : t1 ≤ 9999 := hI2
    have hI3' : t2 ≤ 9999 := hI3
    obtain ⟨j, rfl⟩ : ∃ j, i = j + 1 := ⟨i - 1, by omega⟩
    have h1 := hm j hi
    have h2 := gp_rng H hi
    refine ⟨?_, by omega, ite_le h2.2 hI2, ite_le h2.2 hI3⟩
    show f_X3_evenness_19 (nI n) yr (fu + 1) (nI t1) (nI t2) (nI (j + 1)) = f_X3_evenness_19 (nI n) yr fu (nI (if gp y j < t1 then gp y j else t1)) (nI (if t2 < gp y j then gp y j else t2)) (nI (j + 1 + 1))
    have eg : nI (y (j + 1)) - nI (y j) = nI (gp y j) := nI_sub (by omega)
    rw [f_X3_evenness_19, pbr_neg (le_f hi), pgd_pos (pin_nI (by omega) (by omega)), nI_pred, pgd_pos (pin_nI (by omega) (by omega))]
    simp only [nI_cl (show j + 1 < 2147483648 by omega), nI_cl (show j < 2147483648 by omega), (hy (j + 1) hi).2.1, (hy j (by omega)).2.1, eg, plt_eq, nI_1]
    by_cases a : gp y j < t1
    · rw [if_pos a, if_pos (lt_t a)]
      by_cases b : t2 < gp y j
      · rw [if_pos b, if_pos (lt_t b)]
      · rw [if_neg b, if_neg (lt_f (by omega))]
    · rw [if_neg a, if_neg (lt_f (by omega))]
      by_cases b : t2 < gp y j
      · rw [if_pos b, if_pos (lt_t b)]
      · rw [if_neg b, if_neg (lt_f (by omega))]
theorem ev_model {yr known knowns : A32} {n : Nat} {y : Nat → Nat} (H : KnOK yr known knowns n y) (hn : 1 ≤ n) : f_X12_even_7 knowns known FU 1000000 0 1 = (fun t : Nat × Nat => pbr (nI t.2 = 0) (some (-9)) (pgd (¬ nI t.2 = 0) (some (1000 * nI t.1 / nI t.2)))) (mnF (fun _ => true) (gp y) (n - 1) 1000000, mxF (fun _ => true) (gp y) (n - 1) 0) := by
  have H' := H
  obtain ⟨n1, n2, hy, hm⟩ := H'
  have key := (loop_upI (fun fu i (t : Nat × Nat) => f_X12_even_7 knowns known fu (nI t.1) (nI t.2) i) (fun i t => ((if gp y (i - 1) < t.1 then gp y (i - 1) else t.1), (if t.2 < gp y (i - 1) then gp y (i - 1) else t.2))) (fun t : Nat × Nat => pbr (nI t.2 = 0) (some (-9)) (pgd (¬ nI t.2 = 0) (some (1000 * nI t.1 / nI t.2)))) (fun i t => 1 ≤ i ∧ t.1 ≤ 1000000 ∧ t.2 ≤ 9999) n (fun fu t _ => ?_) (fun fu i t hi hI => ?_) (n - 1) 1 FU (1000000, 0) (by omega) (by have := FU_big; omega) ⟨Nat.le_refl 1, Nat.le_refl _, Nat.zero_le _⟩).1
  · refine Eq.trans key ?_
    rw [foldI_shift]
    have e : ∀ d, fold (fun j (t : Nat × Nat) => ((if gp y (j + 1 - 1) < t.1 then gp y (j + 1 - 1) else t.1), (if t.2 < gp y (j + 1 - 1) then gp y (j + 1 - 1) else t.2))) d (1000000, 0) = (mnF (fun _ => true) (gp y) d 1000000, mxF (fun _ => true) (gp y) d 0) := fun d => by
      unfold mnF mxF
      induction d with
      | zero => rfl
      | succ d ih =>
        simp only [fold]
        rw [ih]
        rfl
    rw [e]
  · show f_X12_even_7 knowns known (fu + 1) (nI t.1) (nI t.2) (nI n) = _
    rw [f_X12_even_7, cl_0, n2, pbr_pos (le_t (by omega))]
  · obtain ⟨t1, t2⟩ := t
    obtain ⟨hI1, hI2, hI3⟩ := hI
    have hI2' : t1 ≤ 1000000 := hI2
    have hI3' : t2 ≤ 9999 := hI3
    obtain ⟨j, rfl⟩ : ∃ j, i = j + 1 := ⟨i - 1, by omega⟩
    have h1 := hm j hi
    have h2 := gp_rng H hi
    refine ⟨?_, by omega, ite_le (by have := h2.2; show gp y (j + 1 - 1) ≤ _; rw [show j + 1 - 1 = j by omega]; omega) hI2, ite_le h2.2 hI3⟩
    show f_X12_even_7 knowns known (fu + 1) (nI t1) (nI t2) (nI (j + 1)) = f_X12_even_7 knowns known fu (nI (if gp y j < t1 then gp y j else t1)) (nI (if t2 < gp y j then gp y j else t2)) (nI (j + 1 + 1))
    have eg : nI (y (j + 1)) - nI (y j) = nI (gp y j) := nI_sub (by omega)
    rw [f_X12_even_7, cl_0, n2, pbr_neg (le_f hi), pgd_pos (pin_nI (by omega) (by omega)), nI_pred, pgd_pos (pin_nI (by omega) (by omega))]
    simp only [nI_cl (show j + 1 < 2147483648 by omega), nI_cl (show j < 2147483648 by omega), (hy (j + 1) hi).2.2, (hy j (by omega)).2.2, eg, f_X12_even_46, plt_eq, nI_1]
    by_cases a : gp y j < t1
    · rw [if_pos a, pbr_neg (le_f a)]
      by_cases b : t2 < gp y j
      · rw [if_pos b, pbr_neg (le_f b)]
      · rw [if_neg b, pbr_pos (le_t (by omega))]
    · rw [if_neg a, pbr_pos (le_t (by omega))]
      by_cases b : t2 < gp y j
      · rw [if_pos b, pbr_neg (le_f b)]
      · rw [if_neg b, pbr_pos (le_t (by omega))]
theorem op_even {yr knowns known : A32} {ct : Int32} (h : RKn 0 yr ct knowns known) : ∃ r, f_X11_even ct yr = some r ∧ f_X12_even knowns known = some r := by
  obtain ⟨n, y, rfl, H⟩ := h.ok
  have H' := H
  obtain ⟨n1, n2, hy, hm⟩ := H'
  unfold f_X11_even f_X12_even f_X3_evenness
  by_cases e : 2 ≤ n
  · have hg : ∀ i, i < n - 1 → gp y i ≤ 9999 := fun i hi => (gp_rng H (by omega)).2
    have hm2 := mn_two (P := fun _ => true) (y := gp y) (n := n - 1) (s1 := 9999) (s2 := 1000000) hg (fun i hi => Nat.le_trans (hg i hi) (by omega)) ⟨0, by omega, rfl⟩
    have hx := mxF_le (fun _ => true) (gp y) (b := 9999) (n - 1) 0 (by omega) hg
    rw [pbr_pos (show (2 : Int32) ≤ nI n from le_t (a := 2) e), ev_class H (by omega), ev_model H (by omega), hm2.1]
    dsimp only
    by_cases z : nI (mxF (fun _ => true) (gp y) (n - 1) 0) = 0
    · rw [pbr_pos z]; exact ⟨_, rfl, rfl⟩
    · rw [pbr_neg z, pgd_pos z]; exact ⟨_, rfl, rfl⟩
  · rw [pbr_neg (show ¬ (2 : Int32) ≤ nI n from le_f (a := 2) (by omega)), pcl_some]
    refine ⟨_, rfl, ?_⟩
    obtain ⟨fu, hfu⟩ : ∃ fu, FU = fu + 1 := ⟨FU - 1, by have := FU_big; omega⟩
    rw [hfu, f_X12_even_7, cl_0, n2, pbr_pos (show nI n ≤ 1 from le_t (b := 1) (by omega)), pbr_pos rfl]
