/-! ===== trees laid on each other ===== -/
def sg (a b : Nat) : Int32 := if a < b then -1 else if a = b then 0 else 1
theorem cmp_eq {a b : Nat} (ha : a < 2147483648) (hb : b < 2147483648) : f_J6_compare_7cf53 (nI a) (nI b) = some (sg a b) := by
  unfold f_J6_compare_7cf53 sg
  rcases Nat.lt_trichotomy a b with h | h | h
  · rw [pbr_neg (le_f h), if_pos h]
  · subst h
    rw [pbr_pos (le_t (by omega)), pbr_pos rfl, if_neg (Nat.lt_irrefl a), if_pos rfl]
  · rw [pbr_pos (le_t (by omega)), pbr_neg (eq_f (by omega)), if_neg (by omega), if_neg (by omega)]
theorem sub_int {a b : Nat} (ha : a ≤ 99) (hb : b ≤ 99) : (nI a - nI b).toInt = (a : Int) - b := by
  rw [i_sub (by rw [nI_int (by omega), nI_int (by omega)]; omega) (by rw [nI_int (by omega), nI_int (by omega)]; omega), nI_int (by omega), nI_int (by omega)]
theorem sub_le0 {a b : Nat} (ha : a ≤ 99) (hb : b ≤ 99) : (nI a - nI b ≤ 0) ↔ a ≤ b := by
  rw [i_le, sub_int ha hb, show (0 : Int32).toInt = 0 by decide]; omega
theorem sub_ge0 {a b : Nat} (ha : a ≤ 99) (hb : b ≤ 99) : (0 ≤ nI a - nI b) ↔ b ≤ a := by
  rw [i_le, sub_int ha hb, show (0 : Int32).toInt = 0 by decide]; omega
/-- one place of the likeness -/
def lkS (g h : Nat → Nat) (o i : Nat) (a : Int32) : Int32 := if sg (g i) (g (i - 1)) = sg (h (o + i)) (h (o + i - 1)) then a + 1 else a
theorem mlike_step {a b c d : Nat} (ha : a ≤ 99) (hb : b ≤ 99) (hc : c ≤ 99) (hd : d ≤ 99) (r : Int32 → Int32 → Option Int32) (woods wood ring : A32) (x1 x2 x3 x4 : Int32) :
    (pbr ((nI a - nI b) ≤ 0) (f_X12_likeOf_79 r woods wood ring x1 x2 x4 (nI a - nI b) (nI c - nI d) x3 0) (f_X12_likeOf_79 r woods wood ring x1 x2 x4 (nI a - nI b) (nI c - nI d) x3 1)) = r (if sg a b = sg c d then x3 + 1 else x3) (x4 + 1) := by
  have e1 := sub_le0 ha hb
  have e2 := sub_ge0 ha hb
  have e3 := sub_le0 hc hd
  have e4 := sub_ge0 hc hd
  have n01 : ¬ (0 : Int32) = 1 := by decide
  have n10 : ¬ (1 : Int32) = 0 := by decide
  unfold f_X12_likeOf_79 f_X12_likeOf_89 f_X12_likeOf_102 f_X12_likeOf_112 f_X12_likeOf_119 f_X12_likeOf_120 sg
  simp only [plt_eq, Int32.add_zero]
  rcases Nat.lt_trichotomy a b with h | h | h <;> rcases Nat.lt_trichotomy c d with q | q | q
  · rw [pbr_pos (e1.mpr (by omega)), pbr_pos (e3.mpr (by omega)), pbr_T, pbr_neg (fun x => absurd (e2.mp x) (by omega)), pbr_neg (fun x => absurd (e4.mp x) (by omega)), pbr_T, if_pos h, if_pos q, if_pos rfl]
  · rw [pbr_pos (e1.mpr (by omega)), pbr_pos (e3.mpr (by omega)), pbr_T, pbr_neg (fun x => absurd (e2.mp x) (by omega)), pbr_pos (e4.mpr (by omega)), pbr_neg n10, if_pos h, if_neg (show ¬ c < d by omega), if_pos q, if_neg (by decide)]
  · rw [pbr_pos (e1.mpr (by omega)), pbr_neg (fun x => absurd (e3.mp x) (by omega)), pbr_neg n01, if_pos h, if_neg (show ¬ c < d by omega), if_neg (show ¬ c = d by omega), if_neg (by decide)]
  · rw [pbr_pos (e1.mpr (by omega)), pbr_pos (e3.mpr (by omega)), pbr_T, pbr_pos (e2.mpr (by omega)), pbr_neg (fun x => absurd (e4.mp x) (by omega)), pbr_neg n01, if_neg (show ¬ a < b by omega), if_pos h, if_pos q, if_neg (by decide)]
  · rw [pbr_pos (e1.mpr (by omega)), pbr_pos (e3.mpr (by omega)), pbr_T, pbr_pos (e2.mpr (by omega)), pbr_pos (e4.mpr (by omega)), pbr_T, if_neg (show ¬ a < b by omega), if_pos h, if_neg (show ¬ c < d by omega), if_pos q, if_pos rfl]
  · rw [pbr_pos (e1.mpr (by omega)), pbr_neg (fun x => absurd (e3.mp x) (by omega)), pbr_neg n01, if_neg (show ¬ a < b by omega), if_pos h, if_neg (show ¬ c < d by omega), if_neg (show ¬ c = d by omega), if_neg (by decide)]
  · rw [pbr_neg (fun x => absurd (e1.mp x) (by omega)), pbr_pos (e3.mpr (by omega)), pbr_neg n10, if_neg (show ¬ a < b by omega), if_neg (show ¬ a = b by omega), if_pos q, if_neg (by decide)]
  · rw [pbr_neg (fun x => absurd (e1.mp x) (by omega)), pbr_pos (e3.mpr (by omega)), pbr_neg n10, if_neg (show ¬ a < b by omega), if_neg (show ¬ a = b by omega), if_neg (show ¬ c < d by omega), if_pos q, if_neg (by decide)]
  · rw [pbr_neg (fun x => absurd (e1.mp x) (by omega)), pbr_neg (fun x => absurd (e3.mp x) (by omega)), pbr_T, pbr_pos (e2.mpr (by omega)), pbr_pos (e4.mpr (by omega)), pbr_T, if_neg (show ¬ a < b by omega), if_neg (show ¬ a = b by omega), if_neg (show ¬ c < d by omega), if_neg (show ¬ c = d by omega), if_pos rfl]
/-- trees, in numbers -/
def TrOK (lr ring : A32) (wr : G32) (wc wood woods : A32) (n w k : Nat) (g h : Nat → Nat) : Prop := n ≤ 60 ∧ w < 4 ∧ k ≤ 30 ∧ wc w = nI k ∧ woods w = nI k ∧ (∀ j, j < k → g j ≤ 99 ∧ wr w j = nI (g j) ∧ wood (30 * w + j) = nI (g j)) ∧ ∀ j, j < n → h j ≤ 99 ∧ lr j = nI (h j) ∧ ring j = nI (h j)
theorem tr_ok {lr ring : A32} {lc fy rings mfy : Int32} (h1 : RLv lr lc fy ring rings mfy) {wr : G32} {wc en wood woods mends : A32} (h2 : RWd wr wc en wood woods mends) : ∃ n, lc = nI n ∧ rings = nI n ∧ ∀ w, w < 4 → ∃ k, TrOK lr ring wr wc wood woods n w k (fun j => (wr w j).toNatClampNeg) (fun j => (lr j).toNatClampNeg) := by
  obtain ⟨⟨n, n1, n2, n3, n4⟩, -⟩ := h1
  refine ⟨n, n2, n3, fun w hw => ?_⟩
  obtain ⟨⟨k, k1, k2, k3, k4⟩, -⟩ := h2 w hw
  refine ⟨k, n1, hw, k1, k2, k3, fun j hj => ?_, fun j hj => ?_⟩
  · obtain ⟨q1, v, v1, v2⟩ := k4 j hj
    have e : (wr w j).toNatClampNeg = v := by rw [v2, nI_cl (by omega)]
    simp only [e]
    exact ⟨v1, v2, q1 ▸ v2⟩
  · obtain ⟨q1, v, v1, v2⟩ := n4 j hj
    have e : (lr j).toNatClampNeg = v := by rw [v2, nI_cl (by omega)]
    simp only [e]
    exact ⟨v1, v2, q1 ▸ v2⟩
theorem like_eq {lr ring : A32} {wr : G32} {wc wood woods : A32} {n w k : Nat} {g h : Nat → Nat} (H : TrOK lr ring wr wc wood woods n w k g h) {o : Nat} (hk : 1 ≤ k) (ho : o + k ≤ n) : f_X10_likeness (nI w) (nI o) wc lr wr = some (foldI (lkS g h o) 1 (k - 1) 0) ∧ f_X12_likeOf (nI w) (nI o) woods wood ring = some (foldI (lkS g h o) 1 (k - 1) 0) := by
  obtain ⟨n1, hw, k1, k2, k3, hg, hh⟩ := H
  constructor
  · refine (loop_upI (fun fu i s => f_X10_likeness_5 wc lr wr (nI w) (nI o) fu s i) (lkS g h o) some (fun i _ => 1 ≤ i) k (fun fu s _ => ?_) (fun fu i s hi hI => ⟨?_, by omega⟩) (k - 1) 1 FU 0 (by omega) (by have := FU_big; omega) (Nat.le_refl 1)).1
    · show f_X10_likeness_5 wc lr wr (nI w) (nI o) (fu + 1) s (nI k) = _
      rw [f_X10_likeness_5, pgd_pos (pin_nI (by omega) (by omega))]
      simp only [nI_cl (show w < 2147483648 by omega), k2]
      rw [pbr_pos (le_t (by omega))]
    · show f_X10_likeness_5 wc lr wr (nI w) (nI o) (fu + 1) s (nI i) = f_X10_likeness_5 wc lr wr (nI w) (nI o) fu (lkS g h o i s) (nI (i + 1))
      have hI' : 1 ≤ i := hI
      obtain ⟨j, rfl⟩ : ∃ j, i = j + 1 := ⟨i - 1, by omega⟩
      obtain ⟨a1, a2, a3⟩ := hg (j + 1) hi
      obtain ⟨b1, b2, b3⟩ := hg j (by omega)
      obtain ⟨c1, c2, c3⟩ := hh (o + (j + 1)) (by omega)
      obtain ⟨d1, d2, d3⟩ := hh (o + j) (by omega)
      have e1 : nI (j + 1) - 1 = nI j := nI_pred j
      have e2 : nI (o + (j + 1)) - 1 = nI (o + j) := nI_pred (o + j)
      rw [f_X10_likeness_5, pgd_pos (pin_nI (by omega) (by omega))]
      simp only [e1, e2, nI_add, nI_cl (show w < 2147483648 by omega), nI_cl (show j + 1 < 2147483648 by omega), nI_cl (show j < 2147483648 by omega), nI_cl (show o + (j + 1) < 2147483648 by omega), nI_cl (show o + j < 2147483648 by omega), k2, a2, b2, c2, d2]
      rw [pbr_neg (le_f hi), pgd_pos (pin_nI (by omega) (by omega)), pgd_pos (pin_nI (by omega) (by omega)), cmp_eq (by omega) (by omega), pcl_some, pgd_pos (pin_nI (by omega) (by omega)), pgd_pos (pin_nI (by omega) (by omega)), cmp_eq (by omega) (by omega), pcl_some]
      simp only [plt_eq, nI_1]
      unfold lkS
      rw [show j + 1 - 1 = j by omega, show o + (j + 1) - 1 = o + j by omega]
      by_cases e : sg (g (j + 1)) (g j) = sg (h (o + (j + 1))) (h (o + j))
      · rw [pbr_pos e, if_pos e]
      · rw [pbr_neg e, if_neg e]
  · refine (loop_upI (fun fu i s => f_X12_likeOf_5 woods wood ring (nI w) (nI o) fu s i) (lkS g h o) some (fun i _ => 1 ≤ i) k (fun fu s _ => ?_) (fun fu i s hi hI => ⟨?_, by omega⟩) (k - 1) 1 FU 0 (by omega) (by have := FU_big; omega) (Nat.le_refl 1)).1
    · show f_X12_likeOf_5 woods wood ring (nI w) (nI o) (fu + 1) s (nI k) = _
      rw [f_X12_likeOf_5, pgd_pos (pin_nI (by omega) (by omega))]
      simp only [nI_cl (show w < 2147483648 by omega), k3]
      rw [pbr_pos (le_t (by omega))]
    · show f_X12_likeOf_5 woods wood ring (nI w) (nI o) (fu + 1) s (nI i) = f_X12_likeOf_5 woods wood ring (nI w) (nI o) fu (lkS g h o i s) (nI (i + 1))
      have hI' : 1 ≤ i := hI
      obtain ⟨j, rfl⟩ : ∃ j, i = j + 1 := ⟨i - 1, by omega⟩
      obtain ⟨a1, a2, a3⟩ := hg (j + 1) hi
      obtain ⟨b1, b2, b3⟩ := hg j (by omega)
      obtain ⟨c1, c2, c3⟩ := hh (o + (j + 1)) (by omega)
      obtain ⟨d1, d2, d3⟩ := hh (o + j) (by omega)
      have e0 : (30 : Int32) * nI w + nI (j + 1) = nI (30 * w + (j + 1)) := by rw [show (30 : Int32) = nI 30 from rfl, nI_mul, nI_add]
      have e1 : nI (30 * w + (j + 1)) - 1 = nI (30 * w + j) := nI_pred _
      have e2 : nI (o + (j + 1)) - 1 = nI (o + j) := nI_pred _
      rw [f_X12_likeOf_5, pgd_pos (pin_nI (by omega) (by omega))]
      simp only [e0, e1, nI_add, e2, nI_cl (show w < 2147483648 by omega), nI_cl (show 30 * w + (j + 1) < 2147483648 by omega), nI_cl (show 30 * w + j < 2147483648 by omega), nI_cl (show o + (j + 1) < 2147483648 by omega), nI_cl (show o + j < 2147483648 by omega), k3, a3, b3, c3, d3, plt_eq]
      rw [pbr_neg (le_f hi), pgd_pos (pin_nI (by omega) (by omega)), pgd_pos (pin_nI (by omega) (by omega)), pgd_pos (pin_nI (by omega) (by omega)), pgd_pos (pin_nI (by omega) (by omega)), mlike_step a1 b1 c1 d1, nI_1]
      unfold lkS
      rw [show j + 1 - 1 = j by omega, show o + (j + 1) - 1 = o + j by omega]
/-- the best place so far -/
def ldS (g h : Nat → Nat) (k i : Nat) (s : Int32 × Int32) : Int32 × Int32 := if foldI (lkS g h i) 1 (k - 1) 0 ≤ s.2 then s else (nI i, foldI (lkS g h i) 1 (k - 1) 0)
def laid (g h : Nat → Nat) (n k : Nat) : Int32 := if 2 ≤ k then (fold (ldS g h k) (n + 1 - k) (-9, -1)).1 else -9
theorem laid_rng (g h : Nat → Nat) {n k : Nat} (hn : n ≤ 60) : laid g h n k = -9 ∨ ∃ j, j ≤ 60 ∧ laid g h n k = nI j := by
  unfold laid
  by_cases hk : 2 ≤ k
  · rw [if_pos hk]
    refine fold_inv (I := fun i (s : Int32 × Int32) => i ≤ n + 1 - k → s.1 = -9 ∨ ∃ j, j ≤ 60 ∧ s.1 = nI j) (fun _ => Or.inl rfl) (fun i hi s hs _ => ?_) (Nat.le_refl _)
    unfold ldS
    by_cases e : foldI (lkS g h i) 1 (k - 1) 0 ≤ s.2
    · rw [if_pos e]; exact hs (by omega)
    · rw [if_neg e]; exact Or.inr ⟨i, by omega, rfl⟩
  · rw [if_neg hk]; exact Or.inl rfl
theorem nk_int {n k : Nat} (hn : n ≤ 60) (hk : k ≤ 30) : (nI n - nI k).toInt = (n : Int) - k := by
  rw [i_sub (by rw [nI_int (by omega), nI_int (by omega)]; omega) (by rw [nI_int (by omega), nI_int (by omega)]; omega), nI_int (by omega), nI_int (by omega)]
theorem laid_eq {lr ring : A32} {wr : G32} {wc wood woods : A32} {n w k : Nat} {g h : Nat → Nat} (H : TrOK lr ring wr wc wood woods n w k g h) : f_X10_laidOn (nI w) (nI n) wc lr wr = some (laid g h n k) ∧ f_X12_laidOf (nI w) (nI n) woods wood ring = some (laid g h n k) := by
  have H' := H
  obtain ⟨n1, hw, k1, k2, k3, hg, hh⟩ := H'
  unfold laid
  by_cases hk : 2 ≤ k
  · rw [if_pos hk]
    constructor
    · unfold f_X10_laidOn
      rw [pgd_pos (pin_nI (by omega) (by omega))]
      simp only [nI_cl (show w < 2147483648 by omega), k2]
      rw [pbr_pos (show (2 : Int32) ≤ nI k from le_t (a := 2) hk)]
      refine loop_up0 (fun fu i (s : Int32 × Int32) => f_X10_laidOn_20 (nI n) wc lr wr (nI w) fu s.1 s.2 i) (ldS g h k) (fun s => some s.1) (n + 1 - k) (by omega) (fun fu s => ?_) (fun fu i s hi => ?_) (-9, -1)
      · show f_X10_laidOn_20 (nI n) wc lr wr (nI w) (fu + 1) s.1 s.2 (nI (n + 1 - k)) = _
        rw [f_X10_laidOn_20, pgd_pos (pin_nI (by omega) (by omega))]
        simp only [nI_cl (show w < 2147483648 by omega), k2]
        rw [pbr_pos (by rw [i_lt, nk_int n1 k1, nI_int (by omega)]; omega)]
      · show f_X10_laidOn_20 (nI n) wc lr wr (nI w) (fu + 1) s.1 s.2 (nI i) = f_X10_laidOn_20 (nI n) wc lr wr (nI w) fu (ldS g h k i s).1 (ldS g h k i s).2 (nI (i + 1))
        rw [f_X10_laidOn_20, pgd_pos (pin_nI (by omega) (by omega))]
        simp only [nI_cl (show w < 2147483648 by omega), k2]
        rw [pbr_neg (by rw [i_lt, nk_int n1 k1, nI_int (by omega)]; omega), (like_eq H (by omega) (by omega)).1, pcl_some]
        simp only [plt_eq, nI_1]
        unfold ldS
        by_cases e : foldI (lkS g h i) 1 (k - 1) 0 ≤ s.2
        · rw [pbr_pos e, if_pos e]
        · rw [pbr_neg e, if_neg e]
    · refine loop_up0 (fun fu i (s : Int32 × Int32) => f_X12_laidOf_8 (nI n) woods wood ring (nI w) fu s.1 s.2 i) (ldS g h k) (fun s => some s.1) (n + 1 - k) (by omega) (fun fu s => ?_) (fun fu i s hi => ?_) (-9, -1)
      · show f_X12_laidOf_8 (nI n) woods wood ring (nI w) (fu + 1) s.1 s.2 (nI (n + 1 - k)) = _
        rw [f_X12_laidOf_8, pgd_pos (pin_nI (by omega) (by omega))]
        simp only [nI_cl (show w < 2147483648 by omega), k3, nI_add]
        rw [pbr_pos (lt_t (by omega))]
      · show f_X12_laidOf_8 (nI n) woods wood ring (nI w) (fu + 1) s.1 s.2 (nI i) = f_X12_laidOf_8 (nI n) woods wood ring (nI w) fu (ldS g h k i s).1 (ldS g h k i s).2 (nI (i + 1))
        rw [f_X12_laidOf_8, pgd_pos (pin_nI (by omega) (by omega))]
        simp only [nI_cl (show w < 2147483648 by omega), k3, nI_add]
        rw [pbr_neg (lt_f (by omega)), pbr_neg (show ¬ nI k ≤ 1 from le_f (b := 1) (by omega)), (like_eq H (by omega) (by omega)).2, pcl_some]
        simp only [f_X12_laidOf_55, plt_eq, nI_1]
        unfold ldS
        by_cases e : foldI (lkS g h i) 1 (k - 1) 0 ≤ s.2
        · rw [pbr_pos e, pbr_pos e, if_pos e]
        · rw [pbr_neg e, pbr_neg e, if_neg e]
  · rw [if_neg hk]
    constructor
    · unfold f_X10_laidOn
      rw [pgd_pos (pin_nI (by omega) (by omega))]
      simp only [nI_cl (show w < 2147483648 by omega), k2]
      rw [pbr_neg (show ¬ (2 : Int32) ≤ nI k from le_f (a := 2) (by omega))]
    · unfold f_X12_laidOf
      obtain ⟨fu, hfu⟩ : ∃ fu, FU = fu + 1 := ⟨FU - 1, by have := FU_big; omega⟩
      rw [hfu, f_X12_laidOf_8, pgd_pos (pin_nI (by omega) (by omega))]
      simp only [nI_cl (show w < 2147483648 by omega), k3]
      rw [pbr_pos (show nI k ≤ 1 from le_t (a := k) (b := 1) (by omega))]
      by_cases e : nI n < 0 + nI k
      · rw [pbr_pos e]
      · rw [pbr_neg e]
