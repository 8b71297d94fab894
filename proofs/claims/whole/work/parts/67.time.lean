/-! ===== time and height ===== -/
theorem both_times {sea : Nat → Prop} {w : Nat → Nat} {a b : Nat} {row far : A32} (h1 : (row a = -9 ∧ ∀ n k, ¬ PP sea w n a b k) ∨ ∃ k, k ≤ 300000 ∧ row a = nI k ∧ Dist sea w a b k) (h2 : (far b = 1000000 ∧ ∀ n k, ¬ PP sea w n a b k) ∨ ∃ k, k ≤ 300000 ∧ far b = nI k ∧ Dist sea w a b k) : (row a = -9 ∧ far b = 1000000) ∨ ∃ k, k ≤ 300000 ∧ row a = nI k ∧ far b = nI k := by
  rcases h1 with ⟨a1, a2⟩ | ⟨k, k1, k2, k3⟩
  · rcases h2 with ⟨b1, b2⟩ | ⟨k, k1, k2, k3⟩
    · exact Or.inl ⟨a1, b1⟩
    · obtain ⟨n, hn⟩ := k3.1
      exact absurd hn (a2 n k)
  · rcases h2 with ⟨b1, b2⟩ | ⟨q, q1, q2, q3⟩
    · obtain ⟨n, hn⟩ := k3.1
      exact absurd hn (b2 n k)
    · have := Dist_unique k3 q3
      subst this
      exact Or.inr ⟨k, k1, k2, q2⟩
theorem oc_all {dp md : A32} (h : RDp dp md) {pc fd yn : Int32} {tu : A32} (ht : RTu pc fd yn tu) : ∃ d p, OcOK dp md pc tu d p ∧ ∀ c, d c ≤ 9 := by
  obtain ⟨p, H⟩ := oc_ok h ht
  exact ⟨_, p, oc_dC H⟩
theorem op_time {dp md : A32} (h : RDp dp md) {pc fd yn : Int32} {tu : A32} (ht : RTu pc fd yn tu) (ti far : A32) (x1 x2 : Int32) : ∃ r ti' far', f_X11_time x1 x2 pc ti dp = some (r, ti') ∧ f_X12_time x1 x2 md far tu = some (r, far') := by
  obtain ⟨d, p, H, h9⟩ := oc_all h ht
  unfold f_X11_time f_X12_time f_X4_travel
  simp only [isCell_eq, mCell_eq, pcl_some, pbr_bI]
  by_cases c1 : 0 ≤ x1 ∧ x1 ≤ 47
  case neg =>
    rw [pbr_neg c1, pbr_neg c1]; exact ⟨_, _, _, rfl, rfl⟩
  rw [pbr_pos c1, pbr_pos c1]
  obtain ⟨a, -, ha, rfl⟩ := of_span (a := 0) (b := 47) (by omega) (by omega) c1.1 c1.2
  by_cases c2 : 0 ≤ x2 ∧ x2 ≤ 47
  case neg =>
    rw [pbr_neg c2, pbr_neg c2]; exact ⟨_, _, _, rfl, rfl⟩
  rw [pbr_pos c2, pbr_pos c2]
  obtain ⟨b, -, hb, rfl⟩ := of_span (a := 0) (b := 47) (by omega) (by omega) c2.1 c2.2
  obtain ⟨row, r1, r2⟩ := row_dist H h9 (show b < 48 by omega) ti
  obtain ⟨far', f1, f2⟩ := begin_eq H h9 (show a < 48 by omega) far
  rw [r1, f1, pcl_some, pcl_some, pgd_pos (pin_nI (by omega) (by omega)), pgd_pos (pin_nI (by omega) (by omega))]
  simp only [pcl_some, nI_cl (show a < 2147483648 by omega), nI_cl (show b < 2147483648 by omega)]
  rcases both_times (r2 a (by omega)) (f2 b (by omega)) with ⟨e1, e2⟩ | ⟨k, k1, e1, e2⟩
  · rw [e1, e2, pbr_pos rfl]; exact ⟨_, _, _, rfl, rfl⟩
  · rw [e1, e2, pbr_neg (show ¬ nI k = 1000000 from eq_f (b := 1000000) (by omega))]; exact ⟨_, _, _, rfl, rfl⟩
theorem swell_none (x2 x3 fd : Int32) (dp : A32) : f_X4_swell (-9) x2 x3 fd dp = some (-9) := by
  unfold f_X4_swell
  rw [plt_eq, pbr_pos (show (-9 : Int32) < 0 by decide)]
/-- the height, on both sides -/
theorem swell_eq {dp md : A32} {pc fd : Int32} {tu : A32} {d : Nat → Nat} {p f : Nat} (H : OcOK dp md pc tu d p) (hf : 1 ≤ f ∧ f ≤ 999 ∧ fd = nI f ∧ tu 1 = nI f) {b k s : Nat} (hb : b < 48) (hk : k ≤ 300000) (hs : s ≤ 99) (hsea : 0 < d b) {far : A32} (hfar : far b = nI k) : ∃ h : Nat, h ≤ 198 ∧ f_X4_swell (nI k) (nI s) (nI b) fd dp = some (nI h) ∧ f_X12_heightAt (nI s) (nI b) tu far md = some (nI h) := by
  obtain ⟨f1, f2, rfl, f3⟩ := hf
  obtain ⟨d1, d2, d3⟩ := H.1 b hb
  have hsf : s * f ≤ 99 * 999 := Nat.mul_le_mul hs f2
  have hdv : s * f / (f + k) ≤ s := by
    refine Nat.div_le_of_le_mul ?_
    rw [Nat.mul_comm (f + k) s]
    exact Nat.mul_le_mul_left s (by omega)
  have e1 : nI s * nI f / (nI f + nI k) = nI (s * f / (f + k)) := by rw [nI_mul, nI_add, pk_div (by omega) (by omega) (by omega)]
  have nz : ¬ nI f + nI k = 0 := by rw [nI_add]; exact eq_f (b := 0) (by omega)
  have e2 : (2 : Int32) * nI (s * f / (f + k)) = nI (2 * (s * f / (f + k))) := nI_mul 2 _
  have ps : (0 : Int32) < nI f + nI k := by rw [nI_add]; exact lt_t (a := 0) (by omega)
  have ng : ¬ nI k < (0 : Int32) := lt_f (b := 0) (by omega)
  unfold f_X4_swell f_X12_heightAt
  simp only [pgd_pos (pin_nI hb (show 48 < 2147483648 by omega)), pgd_pos (pin_nI (show b < 96 by omega) (show 96 < 2147483648 by omega)), nI_cl (show b < 2147483648 by omega), cl_1, f3, hfar, d2, d3, plt_eq, e1, e2, in_eq, pcl_some, pbr_bI]
  rw [pbr_neg ng, pbr_pos ps, pgd_pos nz, pgd_pos nz]
  by_cases g : 2 < d b
  · rw [pbr_pos (show (2 : Int32) < nI (d b) from lt_t (a := 2) g), pbr_neg (show ¬ ((1 : Int32) ≤ nI (d b) ∧ nI (d b) ≤ 2) from fun q => absurd ((nI_le_iff (b := 2) (by omega) (by omega)).mp q.2) (by omega))]
    exact ⟨_, by omega, rfl, rfl⟩
  · rw [pbr_neg (show ¬ (2 : Int32) < nI (d b) from lt_f (a := 2) (by omega)), pbr_pos (show (1 : Int32) ≤ nI (d b) ∧ nI (d b) ≤ 2 from ⟨le_t (a := 1) hsea, le_t (b := 2) (by omega)⟩)]
    exact ⟨_, by omega, rfl, rfl⟩
theorem op_height {dp md : A32} (h : RDp dp md) {pc fd yn : Int32} {tu : A32} (ht : RTu pc fd yn tu) (ti far : A32) (x1 x2 x3 : Int32) : ∃ r ti' far', f_X11_height x1 x2 x3 pc fd ti dp = some (r, ti') ∧ f_X12_height x1 x2 x3 md far tu = some (r, far') := by
  obtain ⟨d, p, H, h9⟩ := oc_all h ht
  obtain ⟨-, ⟨f, f1, f2, f3, f4⟩, -⟩ := ht
  unfold f_X11_height f_X12_height f_X4_travel
  simp only [isCell_eq, mCell_eq, isSize_eq, in_eq, pcl_some, pbr_bI]
  by_cases c1 : 0 ≤ x1 ∧ x1 ≤ 47
  case neg =>
    rw [pbr_neg c1, pbr_neg c1]; exact ⟨_, _, _, rfl, rfl⟩
  rw [pbr_pos c1, pbr_pos c1]
  obtain ⟨a, -, ha, rfl⟩ := of_span (a := 0) (b := 47) (by omega) (by omega) c1.1 c1.2
  by_cases c3 : 1 ≤ x2 ∧ x2 ≤ 99
  case neg =>
    rw [pbr_neg c3, pbr_neg c3]; exact ⟨_, _, _, rfl, rfl⟩
  rw [pbr_pos c3, pbr_pos c3]
  obtain ⟨s, -, hs, rfl⟩ := of_span (a := 1) (b := 99) (by omega) (by omega) c3.1 c3.2
  by_cases c2 : 0 ≤ x3 ∧ x3 ≤ 47
  case neg =>
    rw [pbr_neg c2, pbr_neg c2]; exact ⟨_, _, _, rfl, rfl⟩
  rw [pbr_pos c2, pbr_pos c2]
  obtain ⟨b, -, hb, rfl⟩ := of_span (a := 0) (b := 47) (by omega) (by omega) c2.1 c2.2
  obtain ⟨row, r1, r2⟩ := row_dist H h9 (show b < 48 by omega) ti
  obtain ⟨far', g1, g2⟩ := begin_eq H h9 (show a < 48 by omega) far
  rw [r1, g1, pcl_some, pcl_some, pgd_pos (pin_nI (by omega) (by omega)), pgd_pos (pin_nI (by omega) (by omega)), pcl_some]
  dsimp only
  simp only [nI_cl (show a < 2147483648 by omega), nI_cl (show b < 2147483648 by omega)]
  have hsea : ∀ k, Dist (seaN d) (wN d p) a b k → 0 < d b := fun k hk => by
    obtain ⟨n, hn⟩ := hk.1
    exact (PP_end hn).2
  rcases r2 a (by omega) with ⟨e1, e0⟩ | ⟨k, k1, e1, e0⟩
  · rcases g2 b (by omega) with ⟨e2, -⟩ | ⟨k, k1, e2, e3⟩
    · rw [e1, e2, pbr_pos rfl]
      rw [swell_none]
      exact ⟨_, _, _, rfl, rfl⟩
    · obtain ⟨n, hn⟩ := e3.1
      exact absurd hn (e0 n k)
  · rcases g2 b (by omega) with ⟨e2, e3⟩ | ⟨q, q1, e2, e3⟩
    · obtain ⟨n, hn⟩ := e0.1
      exact absurd hn (e3 n k)
    · have := Dist_unique e0 e3
      subst this
      obtain ⟨hh, -, s1, s2⟩ := swell_eq H ⟨f1, f2, f3, f4⟩ (show b < 48 by omega) k1 hs (hsea k e0) e2
      rw [e1, e2, pbr_neg (show ¬ nI k = 1000000 from eq_f (b := 1000000) (by omega)), s1, s2]
      exact ⟨_, _, _, rfl, rfl⟩
