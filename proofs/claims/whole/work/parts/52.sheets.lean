/-! ===== together ===== -/
theorem mtog {ms od yg sheets marsh oldest youngest : A32} {n : Nat} {m o y : Nat → Nat} (H : ShOK ms od yg sheets marsh oldest youngest n m o y) (x1 x2 : Int32) : f_X12_together x1 x2 sheets oldest youngest = (fun t : Nat × Nat × Nat => pbr (nI t.2.2 = 0) (some (-1)) (pbr (0 ≤ x2 ∧ x2 ≤ 1) (pbr (nI t.1 ≤ nI t.2.1) (pbr (x2 = 0) (some (nI t.1)) (some (nI t.2.1))) (some (-9))) (some (-1)))) (mxF (bt x1) o n 0, mnF (bt x1) y n 9999, ctF (bt x1) n 0) := by
  obtain ⟨n1, n2, hn⟩ := H
  have key := loop_up (fun fu i (t : Nat × Nat × Nat) => f_X12_together_13 sheets oldest youngest x1 x2 fu (nI t.1) (nI t.2.1) (nI t.2.2) i) (fun i t => if bt x1 i = true then ((if t.1 < o i then o i else t.1), (if y i < t.2.1 then y i else t.2.1), t.2.2 + 1) else t) (fun t => pbr (nI t.2.2 = 0) (some (-1)) (pbr (0 ≤ x2 ∧ x2 ≤ 1) (pbr (nI t.1 ≤ nI t.2.1) (pbr (x2 = 0) (some (nI t.1)) (some (nI t.2.1))) (some (-9))) (some (-1)))) (fun i t => t.1 ≤ 9999 ∧ t.2.1 ≤ 9999) n (by omega) (fun fu t ht => ?_) (fun fu i t hi ht => ?_) (0, 9999, 0) ⟨Nat.zero_le _, Nat.le_refl _⟩
  · refine key.1.trans ?_
    have e : fold (fun i (t : Nat × Nat × Nat) => if bt x1 i = true then ((if t.1 < o i then o i else t.1), (if y i < t.2.1 then y i else t.2.1), t.2.2 + 1) else t) n (0, 9999, 0) = (mxF (bt x1) o n 0, mnF (bt x1) y n 9999, ctF (bt x1) n 0) := by
      unfold mxF mnF ctF
      clear key hn n2 n1
      induction n with
      | zero => rfl
      | succ n ih =>
        simp only [fold]
        rw [ih]
        by_cases q : bt x1 n = true
        · simp only [if_pos q]
        · simp only [if_neg q]
    rw [e]
  · show f_X12_together_13 sheets oldest youngest x1 x2 (fu + 1) (nI t.1) (nI t.2.1) (nI t.2.2) (nI n) = _
    rw [f_X12_together_13, cl_0, n2, pbr_pos (le_t (by omega))]
    simp only [in_eq, pcl_some, pbr_bI]
  · obtain ⟨t1, t2, t3⟩ := t
    obtain ⟨k1, k2⟩ := ht
    have k1' : t1 ≤ 9999 := k1
    have k2' : t2 ≤ 9999 := k2
    obtain ⟨-, h2, h3, -, -, -, h7, -, h9⟩ := hn i hi
    by_cases q : bt x1 i = true
    · rw [if_pos q]
      refine ⟨?_, ite_le (by omega) k1, ite_le h3 k2⟩
      show f_X12_together_13 sheets oldest youngest x1 x2 (fu + 1) (nI t1) (nI t2) (nI t3) (nI i) = f_X12_together_13 sheets oldest youngest x1 x2 fu (nI (if t1 < o i then o i else t1)) (nI (if y i < t2 then y i else t2)) (nI (t3 + 1)) (nI (i + 1))
      rw [f_X12_together_13, cl_0, n2, pbr_neg (le_f hi), pbr_pos ((bit_t x1 (by omega)).mpr q), pgd_pos (pin_nI (by omega) (by omega))]
      simp only [f_X12_together_56, f_X12_together_81, plt_eq, nI_1, nI_cl (show i < 2147483648 by omega), h7, h9]
      rw [pgd_pos (pin_nI (by omega) (by omega)), pgd_pos (pin_nI (by omega) (by omega))]
      by_cases a : t1 < o i
      · rw [pbr_neg (le_f a), if_pos a]
        by_cases b : y i < t2
        · rw [pbr_neg (le_f b), if_pos b]
        · rw [pbr_pos (le_t (by omega)), if_neg b]
      · rw [pbr_pos (le_t (by omega)), if_neg a]
        by_cases b : y i < t2
        · rw [pbr_neg (le_f b), if_pos b]
        · rw [pbr_pos (le_t (by omega)), if_neg b]
    · rw [if_neg q]
      refine ⟨?_, k1, k2⟩
      show f_X12_together_13 sheets oldest youngest x1 x2 (fu + 1) (nI t1) (nI t2) (nI t3) (nI i) = f_X12_together_13 sheets oldest youngest x1 x2 fu (nI t1) (nI t2) (nI t3) (nI (i + 1))
      rw [f_X12_together_13, cl_0, n2, pbr_neg (le_f hi), pbr_neg (fun z => q ((bit_t x1 (by omega)).mp z))]
      simp only [plt_eq, nI_1]
theorem op_together {ms od yg sheets marsh oldest youngest : A32} {ct : Int32} (h : RSh 0 ms od yg ct sheets marsh oldest youngest) (x1 x2 : Int32) : ∃ r, f_X11_together x1 x2 ct od yg = some r ∧ f_X12_together x1 x2 sheets oldest youngest = some r := by
  obtain ⟨n, rfl, H⟩ := h.ok
  rw [mtog H]
  have H' := H
  obtain ⟨n1, -, -⟩ := H'
  have hm := ms_and_all n1 x1
  have hct := ctF_le (bt x1) n 0
  unfold f_X11_together f_X6_all
  simp only [isBit_eq, pcl_some, pbr_bI, plt_eq]
  by_cases c : ∀ i, i < n → bt x1 i = false
  · rw [pbr_pos ((hm.eq0 n1).mpr c), pbr_pos (show nI _ = 0 from by rw [(ctF_0 (bt x1) n).mpr c]; rfl)]
    exact ⟨_, rfl, rfl⟩
  · rw [pbr_neg (fun q => c ((hm.eq0 n1).mp q)), pbr_neg (show ¬ nI (ctF (bt x1) n 0) = 0 from eq_f (b := 0) (fun q => c ((ctF_0 (bt x1) n).mp q)))]
    by_cases d : x2 = 0 ∨ x2 = 1
    · rw [pbr_pos d, pbr_pos ((bit_span x2).mp d), first_eq H hm, last_eq H hm, pcl_some, pcl_some]
      generalize mxF _ _ n 0 = a
      generalize mnF _ _ n 9999 = b
      by_cases e : nI a ≤ nI b
      · rw [pbr_pos e]
        by_cases f : x2 = 0
        · rw [pbr_pos f]; exact ⟨_, rfl, rfl⟩
        · rw [pbr_neg f]; exact ⟨_, rfl, rfl⟩
      · rw [pbr_neg e]; exact ⟨_, rfl, rfl⟩
    · rw [pbr_neg d, pbr_neg (fun q => d ((bit_span x2).mpr q))]; exact ⟨_, rfl, rfl⟩
/-! ===== whole ===== -/
def wdN (o y m : Nat → Nat) (n t : Nat) : Nat := pop6 (maF (atY o y t) m n)
def wdS (o y m : Nat → Nat) (n i : Nat) (s : Int32 × Int32) : Int32 × Int32 := if s.2 < nI (wdN o y m n (o i)) ∨ (nI (wdN o y m n (o i)) = s.2 ∧ ¬ s.1 ≤ nI (o i)) then (nI (o i), nI (wdN o y m n (o i))) else s
theorem widest_eq {ms od yg sheets marsh oldest youngest : A32} {n : Nat} {m o y : Nat → Nat} (H : ShOK ms od yg sheets marsh oldest youngest n m o y) : f_X6_widestYear (nI n) od yg ms = some (fold (wdS o y m n) n (-9, 0)).1 := by
  have H' := H
  obtain ⟨n1, n2, hn⟩ := H'
  refine loop_up0 (fun fu i (s : Int32 × Int32) => f_X6_widestYear_7 (nI n) od yg ms fu s.1 s.2 i) (wdS o y m n) (fun s => some s.1) n (by omega) (fun fu s => ?_) (fun fu i s hi => ?_) (-9, 0)
  · show f_X6_widestYear_7 (nI n) od yg ms (fu + 1) s.1 s.2 (nI n) = _
    rw [f_X6_widestYear_7, pbr_pos (le_t (by omega))]
  · show f_X6_widestYear_7 (nI n) od yg ms (fu + 1) s.1 s.2 (nI i) = f_X6_widestYear_7 (nI n) od yg ms fu (wdS o y m n i s).1 (wdS o y m n i s).2 (nI (i + 1))
    obtain ⟨h1, h2, h3, -, -, h6, -⟩ := hn i hi
    have e64 : maF (atY o y (o i)) m n < 64 := maF_lt (fun j hj => (hn j hj).1)
    rw [f_X6_widestYear_7, pbr_neg (le_f hi), pgd_pos (pin_nI (by omega) (by omega))]
    simp only [f_X6_widestYear_52, plt_eq, nI_1, nI_cl (show i < 2147483648 by omega), h6]
    rw [maAt_eq H (by omega), pcl_some, pop64' _ e64, pcl_some, pgd_pos (pin_nI (by omega) (by omega))]
    unfold wdS wdN
    generalize nI (pop6 (maF (atY o y (o i)) m n)) = z
    by_cases a : s.2 < z
    · rw [pbr_pos a, if_pos (Or.inl a)]
    · rw [pbr_neg a]
      by_cases b : z = s.2
      · rw [pbr_pos b]
        by_cases c : s.1 ≤ nI (o i)
        · rw [pbr_pos c, if_neg (fun q => q.elim a (fun w => w.2 c))]
        · rw [pbr_neg c, if_pos (Or.inr ⟨b, c⟩)]
      · rw [pbr_neg b, if_neg (fun q => q.elim a (fun w => b w.1))]
theorem mwhole {ms od yg sheets marsh oldest youngest : A32} {n : Nat} {m o y : Nat → Nat} (H : ShOK ms od yg sheets marsh oldest youngest n m o y) (x1 : Int32) : f_X12_whole_19 sheets oldest youngest marsh x1 FU (-9) 0 0 = (fun s : Int32 × Int32 => pbr (s.1 = -9) (some s.1) (pbr (x1 = 0) (some s.1) (some s.2))) (fold (wdS o y m n) n (-9, 0)) := by
  have H' := H
  obtain ⟨n1, n2, hn⟩ := H'
  refine loop_up0 (fun fu i (s : Int32 × Int32) => f_X12_whole_19 sheets oldest youngest marsh x1 fu s.1 s.2 i) (wdS o y m n) (fun s => pbr (s.1 = -9) (some s.1) (pbr (x1 = 0) (some s.1) (some s.2))) n (by omega) (fun fu s => ?_) (fun fu i s hi => ?_) (-9, 0)
  · show f_X12_whole_19 sheets oldest youngest marsh x1 (fu + 1) s.1 s.2 (nI n) = _
    rw [f_X12_whole_19, cl_0, n2, pbr_pos (le_t (by omega))]
  · show f_X12_whole_19 sheets oldest youngest marsh x1 (fu + 1) s.1 s.2 (nI i) = f_X12_whole_19 sheets oldest youngest marsh x1 fu (wdS o y m n i s).1 (wdS o y m n i s).2 (nI (i + 1))
    obtain ⟨h1, h2, h3, -, -, -, h7, -⟩ := hn i hi
    have e64 : maF (atY o y (o i)) m n < 64 := maF_lt (fun j hj => (hn j hj).1)
    rw [f_X12_whole_19, cl_0, n2, pbr_neg (le_f hi), pgd_pos (pin_nI (by omega) (by omega))]
    have n10 : ¬ (1 : Int32) = 0 := by decide
    simp only [f_X12_whole_69, f_X12_whole_73, f_X12_whole_74, f_X12_whole_92, plt_eq, nI_1, nI_cl (show i < 2147483648 by omega), h7]
    rw [joinedBy_eq H (by omega), pcl_some, mpop e64, pcl_some]
    simp only [pbr_neg n10, pgd_pos (pin_nI (show i < 36 by omega) (by omega))]
    unfold wdS wdN
    generalize nI (pop6 (maF (atY o y (o i)) m n)) = z
    by_cases a : s.2 < z
    · rw [pbr_pos a, if_pos (Or.inl a)]
    · rw [pbr_neg a]
      by_cases b : z = s.2
      · rw [pbr_pos b]
        by_cases c : s.1 ≤ nI (o i)
        · rw [pbr_pos c, if_neg (fun q => q.elim a (fun w => w.2 c)), pbr_T, pbr_T]
        · rw [pbr_neg c, if_pos (Or.inr ⟨b, c⟩)]
      · rw [pbr_neg b, if_neg (fun q => q.elim a (fun w => b w.1)), pbr_T, pbr_T]
theorem wd_inv {o y m : Nat → Nat} {n : Nat} (ho : ∀ i, i < n → o i ≤ 9999) : (fold (wdS o y m n) n (-9, 0)).1 = -9 ∨ ∃ t, t ≤ 9999 ∧ fold (wdS o y m n) n (-9, 0) = (nI t, nI (wdN o y m n t)) := by
  refine fold_inv (I := fun i (s : Int32 × Int32) => i ≤ n → s.1 = -9 ∨ ∃ t, t ≤ 9999 ∧ s = (nI t, nI (wdN o y m n t))) (fun _ => Or.inl rfl) (fun i hi s hs _ => ?_) (Nat.le_refl n)
  unfold wdS
  by_cases e : s.2 < nI (wdN o y m n (o i)) ∨ (nI (wdN o y m n (o i)) = s.2 ∧ ¬ s.1 ≤ nI (o i))
  · rw [if_pos e]; exact Or.inr ⟨o i, ho i hi, rfl⟩
  · rw [if_neg e]; exact hs (by omega)
theorem op_whole {ms od yg sheets marsh oldest youngest : A32} {ct : Int32} (h : RSh 0 ms od yg ct sheets marsh oldest youngest) (x1 : Int32) : ∃ r, f_X11_whole x1 ct od yg ms = some r ∧ f_X12_whole x1 sheets oldest youngest marsh = some r := by
  obtain ⟨n, rfl, H⟩ := h.ok
  have H' := H
  obtain ⟨n1, n2, hn⟩ := H'
  unfold f_X11_whole f_X12_whole
  simp only [isBit_eq, in_eq, pcl_some, pbr_bI]
  by_cases d : x1 = 0 ∨ x1 = 1
  · rw [pbr_pos d, pbr_pos ((bit_span x1).mp d), widest_eq H, mwhole H, pcl_some]
    rcases wd_inv (m := fun i => (ms i).toNatClampNeg) (y := fun i => (yg i).toNatClampNeg) (fun i hi => Nat.le_trans (hn i hi).2.1 (hn i hi).2.2.1) with q | ⟨t, t1, t2⟩
    · rw [pbr_pos q]
      refine ⟨_, rfl, ?_⟩
      exact pbr_pos q
    · have e64 := maF_lt (P := atY (fun i => (od i).toNatClampNeg) (fun i => (yg i).toNatClampNeg) t) (fun j hj => (hn j hj).1)
      rw [t2]
      show ∃ r, pbr (nI t = -9) _ _ = some r ∧ pbr (nI t = -9) _ _ = some r
      rw [pbr_neg (show ¬ nI t = -9 from fun q => by rw [i_eq, nI_int (by omega), show (-9 : Int32).toInt = -9 by decide] at q; omega), pbr_neg (show ¬ nI t = -9 from fun q => by rw [i_eq, nI_int (by omega), show (-9 : Int32).toInt = -9 by decide] at q; omega)]
      by_cases e : x1 = 0
      · rw [pbr_pos e, pbr_pos e]; exact ⟨_, rfl, rfl⟩
      · rw [pbr_neg e, pbr_neg e, maAt_eq H t1, pcl_some, pop64' _ e64, pcl_some]
        exact ⟨_, rfl, rfl⟩
  · rw [pbr_neg d, pbr_neg (fun q => d ((bit_span x1).mpr q))]; exact ⟨_, rfl, rfl⟩
