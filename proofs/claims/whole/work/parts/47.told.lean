/-! ===== a day is looked for month by month ===== -/
def wI (l : Nat → Nat) : Nat → Nat → Nat → (Nat × Nat) ⊕ Nat
  | 0, _, d => .inr d
  | c + 1, m, d => if l m ≤ d then wI l c (m + 1) (d - l m) else .inl (m, d)
def wO (l : Nat → Nat → Nat) (k : Nat → Nat) : Nat → Nat → Nat → Option (Nat × Nat × Nat)
  | 0, _, _ => none
  | c + 1, y, d => match wI (l y) (k y) 0 d with
    | .inl v => some (y, v.1, v.2)
    | .inr d' => wO l k c (y + 1) d'
/-- the sum from m on of c of them -/
def sN (l : Nat → Nat) : Nat → Nat → Nat
  | _, 0 => 0
  | m, c + 1 => l m + sN l (m + 1) c
theorem sN_snoc (l : Nat → Nat) : ∀ (c m : Nat), sN l m (c + 1) = sN l m c + l (m + c)
  | 0, m => by show l m + 0 = 0 + l (m + 0); rw [Nat.add_zero, Nat.zero_add, Nat.add_zero]
  | c + 1, m => by
    show l m + sN l (m + 1) (c + 1) = (l m + sN l (m + 1) c) + l (m + (c + 1))
    rw [sN_snoc l c (m + 1), show m + 1 + c = m + (c + 1) by omega, Nat.add_assoc]
theorem wI_out (l : Nat → Nat) : ∀ (c m d : Nat), (sN l m c ≤ d ∧ wI l c m d = .inr (d - sN l m c)) ∨ (d < sN l m c ∧ ∃ v, wI l c m d = .inl v)
  | 0, m, d => Or.inl ⟨Nat.zero_le _, rfl⟩
  | c + 1, m, d => by
    show (l m + sN l (m + 1) c ≤ d ∧ (if l m ≤ d then wI l c (m + 1) (d - l m) else .inl (m, d)) = .inr (d - (l m + sN l (m + 1) c))) ∨ (d < l m + sN l (m + 1) c ∧ ∃ v, (if l m ≤ d then wI l c (m + 1) (d - l m) else .inl (m, d)) = .inl v)
    by_cases h : l m ≤ d
    · rw [if_pos h]
      rcases wI_out l c (m + 1) (d - l m) with ⟨h1, h2⟩ | ⟨h1, v, h2⟩
      · exact Or.inl ⟨by omega, by rw [h2, Nat.sub_sub]⟩
      · exact Or.inr ⟨by omega, v, h2⟩
    · rw [if_neg h]
      exact Or.inr ⟨by omega, _, rfl⟩
theorem wO_out (l : Nat → Nat → Nat) (k : Nat → Nat) : ∀ (c y d : Nat), (sN (fun i => sN (l i) 0 (k i)) y c ≤ d ∧ wO l k c y d = none) ∨ (d < sN (fun i => sN (l i) 0 (k i)) y c ∧ ∃ v, wO l k c y d = some v)
  | 0, y, d => Or.inl ⟨Nat.zero_le _, rfl⟩
  | c + 1, y, d => by
    show (sN (l y) 0 (k y) + sN (fun i => sN (l i) 0 (k i)) (y + 1) c ≤ d ∧ _) ∨ (d < sN (l y) 0 (k y) + sN (fun i => sN (l i) 0 (k i)) (y + 1) c ∧ _)
    unfold wO
    rcases wI_out (l y) (k y) 0 d with ⟨h1, h2⟩ | ⟨h1, v, h2⟩
    · rw [h2]
      rcases wO_out l k c (y + 1) (d - sN (l y) 0 (k y)) with ⟨h3, h4⟩ | ⟨h3, v, h4⟩
      · exact Or.inl ⟨by omega, h4⟩
      · exact Or.inr ⟨by omega, v, h4⟩
    · rw [h2]
      exact Or.inr ⟨by omega, _, rfl⟩
theorem sI_sN {g : A32} {l : Nat → Nat} : ∀ {n : Nat}, (∀ j, j < n → g j = nI (l j)) → sI g n 0 = nI (sN l 0 n)
  | 0, _ => rfl
  | n + 1, h => by
    show sI g n 0 + g n = _
    rw [sI_sN (fun j hj => h j (by omega)), h n (by omega), nI_add, sN_snoc, Nat.zero_add]
theorem sN_le {l : Nat → Nat} {b : Nat} : ∀ {c m : Nat}, (∀ j, m ≤ j → j < m + c → l j ≤ b) → sN l m c ≤ b * c
  | 0, _, _ => Nat.zero_le _
  | c + 1, m, h => by
    have h1 := h m (by omega) (by omega)
    have h2 := sN_le (c := c) (m := m + 1) (fun j a b => h j (by omega) (by omega))
    show l m + sN l (m + 1) c ≤ b * (c + 1)
    rw [Nat.mul_succ]
    omega
/-- what the walk answers -/
def wA (A : Nat → Nat → Nat → Int32) : Option (Nat × Nat × Nat) → Int32
  | none => -1000000
  | some v => A v.1 v.2.1 v.2.2
def CalOK (lg : G32) (mo months years : A32) (n : Nat) (l : Nat → Nat → Nat) (k : Nat → Nat) : Prop := n ≤ 8 ∧ years 0 = nI n ∧ (∀ y, y < n → 12 ≤ k y ∧ k y ≤ 13 ∧ mo y = nI (k y) ∧ months (14 * y) = nI (k y)) ∧ ∀ y m, y < n → m < k y → 29 ≤ l y m ∧ l y m ≤ 30 ∧ lg y m = nI (l y m) ∧ months (14 * y + 1 + m) = nI (l y m)
theorem pod_in {lg : G32} {mo months years : A32} {n : Nat} {l : Nat → Nat → Nat} {k : Nat → Nat} (H : CalOK lg mo months years n l k) (x1 x2 : Int32) (r : Int32 → Int32 → Option Int32) {y : Nat} (hyn : y < n) : ∀ (c m d fu : Nat), m + c = k y → c < fu → d < 2147483648 → f_X1_partOfDay_17 r (nI n) mo lg x1 x2 fu (nI d) (nI y) (nI m) = (match wI (l y) c m d with
    | .inl v => some (if x2 = 0 then nI y else if x2 = 1 then nI v.1 else nI v.2)
    | .inr d' => r (nI d') (nI (y + 1)))
  | 0, m, d, fu, h, hfu, hd => by
    obtain ⟨f, rfl⟩ : ∃ f, fu = f + 1 := ⟨fu - 1, by omega⟩
    have H' := H
    obtain ⟨hn, hy, hk, hl⟩ := H'
    obtain ⟨k1, k2, k3, k4⟩ := hk y hyn
    rw [f_X1_partOfDay_17, pgd_pos (pin_nI (by omega) (by omega))]
    simp only [nI_cl (show y < 2147483648 by omega), k3]
    rw [pbr_pos (le_t (by omega))]
    simp only [plt_eq, nI_1, wI]
  | c + 1, m, d, fu, h, hfu, hd => by
    obtain ⟨f, rfl⟩ : ∃ f, fu = f + 1 := ⟨fu - 1, by omega⟩
    have H' := H
    obtain ⟨hn, hy, hk, hl⟩ := H'
    obtain ⟨k1, k2, k3, k4⟩ := hk y hyn
    obtain ⟨l1, l2, l3, l4⟩ := hl y m hyn (by omega)
    rw [f_X1_partOfDay_17, pgd_pos (pin_nI (by omega) (by omega))]
    simp only [nI_cl (show y < 2147483648 by omega), nI_cl (show m < 2147483648 by omega), k3, l3]
    rw [pbr_neg (le_f (by omega)), pgd_pos (pin_nI (by omega) (by omega))]
    unfold wI
    by_cases e : l y m ≤ d
    · rw [pbr_pos (le_t e), if_pos e]
      simp only [plt_eq, nI_1, nI_sub e]
      exact pod_in H x1 x2 r hyn c (m + 1) (d - l y m) f (by omega) (by omega) (by omega)
    · rw [pbr_neg (le_f (by omega)), if_neg e]
      by_cases e0 : x2 = 0
      · rw [pbr_pos e0]; simp only [if_pos e0]
      · rw [pbr_neg e0]
        by_cases e1 : x2 = 1
        · rw [pbr_pos e1]; simp only [if_neg e0, if_pos e1]
        · rw [pbr_neg e1]; simp only [if_neg e0, if_neg e1]
theorem pod_out {lg : G32} {mo months years : A32} {n : Nat} {l : Nat → Nat → Nat} {k : Nat → Nat} (H : CalOK lg mo months years n l k) (x1 x2 : Int32) : ∀ (c y d fu : Nat), y + c = n → c < fu → d < 2147483648 → f_X1_partOfDay_5 (nI n) mo lg x1 x2 fu (nI d) (nI y) = some (wA (fun y m d => if x2 = 0 then nI y else if x2 = 1 then nI m else nI d) (wO l k c y d))
  | 0, y, d, fu, h, hfu, hd => by
    obtain ⟨f, rfl⟩ : ∃ f, fu = f + 1 := ⟨fu - 1, by omega⟩
    have H' := H
    obtain ⟨hn, hy, hk, hl⟩ := H'
    rw [f_X1_partOfDay_5, pbr_pos (le_t (by omega))]
    rfl
  | c + 1, y, d, fu, h, hfu, hd => by
    obtain ⟨f, rfl⟩ : ∃ f, fu = f + 1 := ⟨fu - 1, by omega⟩
    have H' := H
    obtain ⟨hn, hy, hk, hl⟩ := H'
    obtain ⟨k1, k2, k3, k4⟩ := hk y (by omega)
    rw [f_X1_partOfDay_5, pbr_neg (le_f (by omega))]
    refine (pod_in H x1 x2 _ (show y < n by omega) (k y) 0 d FU (by omega) (by have := FU_big; omega) hd).trans ?_
    unfold wO
    rcases wI_out (l y) (k y) 0 d with ⟨h1, h2⟩ | ⟨h1, v, h2⟩
    · rw [h2]
      exact pod_out H x1 x2 c (y + 1) _ f (by omega) (by omega) (by omega)
    · rw [h2]
      rfl
theorem mt_in {lg : G32} {mo months years : A32} {n : Nat} {l : Nat → Nat → Nat} {k : Nat → Nat} (H : CalOK lg mo months years n l k) (x1 x2 x3 : Int32) (r : Int32 → Int32 → Int32 → Option Int32) {y : Nat} (hyn : y < n) : ∀ (c m d fu : Nat), m + c = k y → c < fu → d < 2147483648 → f_X12_told_61 r years months x1 x2 fu x3 (nI d) (nI y) (nI m) = (match wI (l y) c m d with
    | .inl v => some (if x2 = 0 then nI y else if x2 = 1 then nI v.1 else if x2 = 2 then nI v.2 else x3 - x3 / 12 * 12)
    | .inr d' => r x3 (nI d') (nI (y + 1)))
  | 0, m, d, fu, h, hfu, hd => by
    obtain ⟨f, rfl⟩ : ∃ f, fu = f + 1 := ⟨fu - 1, by omega⟩
    have H' := H
    obtain ⟨hn, hy, hk, hl⟩ := H'
    obtain ⟨k1, k2, k3, k4⟩ := hk y hyn
    have e14 : (14 : Int32) * nI y = nI (14 * y) := by rw [show (14 : Int32) = nI 14 from rfl, nI_mul]
    rw [f_X12_told_61]
    simp only [e14, nI_cl (show 14 * y < 2147483648 by omega), k4]
    rw [pgd_pos (pin_nI (by omega) (by omega)), pbr_pos (le_t (by omega))]
    simp only [plt_eq, nI_1, wI]
  | c + 1, m, d, fu, h, hfu, hd => by
    obtain ⟨f, rfl⟩ : ∃ f, fu = f + 1 := ⟨fu - 1, by omega⟩
    have H' := H
    obtain ⟨hn, hy, hk, hl⟩ := H'
    obtain ⟨k1, k2, k3, k4⟩ := hk y hyn
    obtain ⟨l1, l2, l3, l4⟩ := hl y m hyn (by omega)
    have e14 : (14 : Int32) * nI y = nI (14 * y) := by rw [show (14 : Int32) = nI 14 from rfl, nI_mul]
    rw [f_X12_told_61]
    simp only [e14, nI_1, nI_add, nI_cl (show 14 * y < 2147483648 by omega), nI_cl (show 14 * y + 1 + m < 2147483648 by omega), k4, l4, plt_eq]
    rw [pgd_pos (pin_nI (by omega) (by omega)), pbr_neg (le_f (by omega)), pgd_pos (pin_nI (by omega) (by omega))]
    unfold wI
    by_cases e : l y m ≤ d
    · rw [pbr_pos (le_t e), if_pos e]
      simp only [nI_sub e]
      exact mt_in H x1 x2 x3 r hyn c (m + 1) (d - l y m) f (by omega) (by omega) (by omega)
    · rw [pbr_neg (le_f (by omega)), if_neg e]
      by_cases e0 : x2 = 0
      · rw [pbr_pos e0]; simp only [if_pos e0]
      · rw [pbr_neg e0]
        by_cases e1 : x2 = 1
        · rw [pbr_pos e1]; simp only [if_neg e0, if_pos e1]
        · rw [pbr_neg e1]
          by_cases e2 : x2 = 2
          · rw [pbr_pos e2]; simp only [if_neg e0, if_neg e1, if_pos e2]
          · rw [pbr_neg e2]; simp only [if_neg e0, if_neg e1, if_neg e2]
theorem mt_out {lg : G32} {mo months years : A32} {n : Nat} {l : Nat → Nat → Nat} {k : Nat → Nat} (H : CalOK lg mo months years n l k) (x1 x2 x3 : Int32) : ∀ (c y d fu : Nat), y + c = n → c < fu → d < 2147483648 → f_X12_told_47 years months x1 x2 fu x3 (nI d) (nI y) = some (wA (fun y m d => if x2 = 0 then nI y else if x2 = 1 then nI m else if x2 = 2 then nI d else x3 - x3 / 12 * 12) (wO l k c y d))
  | 0, y, d, fu, h, hfu, hd => by
    obtain ⟨f, rfl⟩ : ∃ f, fu = f + 1 := ⟨fu - 1, by omega⟩
    have H' := H
    obtain ⟨hn, hy, hk, hl⟩ := H'
    rw [f_X12_told_47, cl_0, hy, pbr_pos (le_t (by omega))]
    rfl
  | c + 1, y, d, fu, h, hfu, hd => by
    obtain ⟨f, rfl⟩ : ∃ f, fu = f + 1 := ⟨fu - 1, by omega⟩
    have H' := H
    obtain ⟨hn, hy, hk, hl⟩ := H'
    obtain ⟨k1, k2, k3, k4⟩ := hk y (by omega)
    rw [f_X12_told_47, cl_0, hy, pbr_neg (le_f (by omega))]
    refine (mt_in H x1 x2 x3 _ (show y < n by omega) (k y) 0 d FU (by omega) (by have := FU_big; omega) hd).trans ?_
    unfold wO
    rcases wI_out (l y) (k y) 0 d with ⟨h1, h2⟩ | ⟨h1, v, h2⟩
    · rw [h2]
      exact mt_out H x1 x2 x3 c (y + 1) _ f (by omega) (by omega) (by omega)
    · rw [h2]
      rfl
theorem allDays_eq {lg : G32} {mo months years : A32} {n : Nat} {l : Nat → Nat → Nat} {k : Nat → Nat} (H : CalOK lg mo months years n l k) : f_X1_allDays (nI n) mo lg = some (nI (sN (fun i => sN (l i) 0 (k i)) 0 n)) ∧ sN (fun i => sN (l i) 0 (k i)) 0 n ≤ 390 * n := by
  obtain ⟨hn, hy, hk, hl⟩ := H
  constructor
  · have h := loop_up0 (fun fu i s => f_X1_allDays_4 (nI n) mo lg fu s i) (fun i a => a + nI (sN (l i) 0 (k i))) some n (by omega) (fun fu s => ?_) (fun fu i s hi => ?_) 0
    · refine Eq.trans h ?_
      exact congrArg some (sI_sN (g := fun i => nI (sN (l i) 0 (k i))) (n := n) (fun j _ => rfl))
    · show f_X1_allDays_4 (nI n) mo lg (fu + 1) s (nI n) = _
      rw [f_X1_allDays_4, pbr_pos (le_t (by omega))]
    · show f_X1_allDays_4 (nI n) mo lg (fu + 1) s (nI i) = f_X1_allDays_4 (nI n) mo lg fu _ (nI (i + 1))
      obtain ⟨k1, k2, k3, k4⟩ := hk i hi
      rw [f_X1_allDays_4, pbr_neg (le_f hi), pgd_pos (pin_nI (by omega) (by omega))]
      simp only [nI_cl (show i < 2147483648 by omega), k3, daysOf_eq (show i < 8 by omega) k2, pcl_some, plt_eq, nI_1, sI_sN (fun j hj => (hl i j hi hj).2.2.1)]
  · refine sN_le (fun j _ hj => ?_)
    have h1 := hk j (by omega)
    have h2 := sN_le (l := l j) (b := 30) (c := k j) (m := 0) (fun q _ hq => (hl j q (by omega) (by omega)).2.1)
    have h3 : 30 * k j ≤ 30 * 13 := Nat.mul_le_mul_left 30 h1.2.1
    omega
