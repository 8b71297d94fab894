/-! ===== slips: years that meet every sheet ===== -/
def aft (o : Nat → Nat) (cur : Int) (i : Nat) : Bool := decide (cur < (o i : Int))
/-- the least youngest of a set that isn't empty, from whichever start -/
theorem mn_two {P : Nat → Bool} {y : Nat → Nat} {n s1 s2 : Nat} (h1 : ∀ i, i < n → y i ≤ s1) (h2 : ∀ i, i < n → y i ≤ s2) (hx : ∃ i, i < n ∧ P i = true) : mnF P y n s1 = mnF P y n s2 ∧ ∃ i, i < n ∧ P i = true ∧ mnF P y n s1 = y i := by
  obtain ⟨j, j1, j2⟩ := hx
  have att : ∀ s, (∀ i, i < n → y i ≤ s) → ∃ i, i < n ∧ P i = true ∧ mnF P y n s = y i := fun s hs => by
    obtain ⟨a1, a2, a3⟩ := mnF_spec P y s n
    rcases a3 with a3 | a3
    · refine ⟨j, j1, j2, ?_⟩
      have b1 := a2 j j1 j2
      have b2 := hs j j1
      omega
    · exact a3
  obtain ⟨a, a1, a2, a3⟩ := att s1 h1
  obtain ⟨b, b1, b2, b3⟩ := att s2 h2
  have c1 := (mnF_spec P y s1 n).2.1 b b1 b2
  have c2 := (mnF_spec P y s2 n).2.1 a a1 a2
  exact ⟨by omega, a, a1, a2, a3⟩
theorem ctF_lt {P Q : Nat → Bool} : ∀ {n : Nat}, (∀ i, i < n → Q i = true → P i = true) → ctF Q n 0 ≤ ctF P n 0 ∧ ((∃ i, i < n ∧ P i = true ∧ Q i = false) → ctF Q n 0 < ctF P n 0)
  | 0, _ => ⟨Nat.le_refl _, fun ⟨i, hi, _⟩ => absurd hi (by omega)⟩
  | n + 1, h => by
    obtain ⟨h1, h2⟩ := ctF_lt (P := P) (Q := Q) (n := n) (fun i hi => h i (by omega))
    have e1 : ctF P (n + 1) 0 = (if P n = true then ctF P n 0 + 1 else ctF P n 0) := rfl
    have e2 : ctF Q (n + 1) 0 = (if Q n = true then ctF Q n 0 + 1 else ctF Q n 0) := rfl
    have h3 := h n (by omega)
    rw [e1, e2]
    by_cases p : P n = true
    · rw [if_pos p]
      by_cases q : Q n = true
      · rw [if_pos q]
        refine ⟨by omega, fun ⟨i, hi, a, b⟩ => ?_⟩
        by_cases z : i = n
        · subst z; rw [b] at q; cases q
        · have := h2 ⟨i, by omega, a, b⟩; omega
      · rw [if_neg q]; exact ⟨by omega, fun _ => by omega⟩
    · rw [if_neg p, if_neg (fun q => p (h3 q))]
      refine ⟨h1, fun ⟨i, hi, a, b⟩ => ?_⟩
      by_cases z : i = n
      · subst z; exact absurd a p
      · exact h2 ⟨i, by omega, a, b⟩
/-- the model's search for the next year -/
theorem mslip_in {ms od yg sheets marsh oldest youngest : A32} {n : Nat} {m o y : Nat → Nat} (H : ShOK ms od yg sheets marsh oldest youngest n m o y) (r : Int32 → Int32 → Int32 → Option Int32) {x1 x2 : Int32} {cur : Int} (hc : x1.toInt = cur) : f_X12_slips_17 r sheets oldest youngest marsh FU x1 x2 1000000 0 = f_X12_slips_83 r sheets oldest youngest marsh x2 (nI (mnF (aft o cur) y n 1000000)) (bI (mnF (aft o cur) y n 1000000 < 1000000)) := by
  obtain ⟨n1, n2, hn⟩ := H
  refine (loop_up (fun fu i (s : Nat) => f_X12_slips_17 r sheets oldest youngest marsh fu x1 x2 (nI s) i) (fun i a => if aft o cur i = true then (if y i < a then y i else a) else a) (fun s => f_X12_slips_83 r sheets oldest youngest marsh x2 (nI s) (bI (s < 1000000))) (fun _ s => s ≤ 1000000) n (by omega) (fun fu s hs => ?_) (fun fu i s hi hs => ?_) 1000000 (Nat.le_refl _)).1
  · show f_X12_slips_17 r sheets oldest youngest marsh (fu + 1) x1 x2 (nI s) (nI n) = _
    have hs' : s ≤ 1000000 := hs
    rw [f_X12_slips_17, cl_0, n2, pbr_pos (le_t (by omega))]
    by_cases e : s < 1000000
    · rw [pbr_neg (show ¬ (1000000 : Int32) ≤ nI s from le_f (a := 1000000) e), bI_pos e]
    · rw [pbr_pos (show (1000000 : Int32) ≤ nI s from le_t (a := 1000000) (by omega)), bI_neg e]
  · have hs' : s ≤ 1000000 := hs
    obtain ⟨-, h2, h3, -, -, -, h7, -, h9⟩ := hn i hi
    have st : f_X12_slips_17 r sheets oldest youngest marsh (fu + 1) x1 x2 (nI s) (nI i) = pbr (nI (o i) ≤ x1) (f_X12_slips_17 r sheets oldest youngest marsh fu x1 x2 (nI s) (nI (i + 1))) (pbr (nI s ≤ nI (y i)) (f_X12_slips_17 r sheets oldest youngest marsh fu x1 x2 (nI s) (nI (i + 1))) (f_X12_slips_17 r sheets oldest youngest marsh fu x1 x2 (nI (y i)) (nI (i + 1)))) := by
      rw [f_X12_slips_17, cl_0, n2, pbr_neg (le_f hi), pgd_pos (pin_nI (by omega) (by omega))]
      simp only [f_X12_slips_61, plt_eq, nI_1, nI_cl (show i < 2147483648 by omega), h7, h9]
    by_cases a : cur < (o i : Int)
    · rw [if_pos (show aft o cur i = true from decide_eq_true a)]
      refine ⟨?_, ite_le (by omega) hs⟩
      refine st.trans ?_
      rw [pbr_neg (fun q => by rw [i_le, nI_int (by omega), hc] at q; omega)]
      by_cases b : y i < s
      · rw [pbr_neg (le_f b), if_pos b]
      · rw [pbr_pos (le_t (by omega)), if_neg b]
    · rw [if_neg (show ¬ aft o cur i = true from fun q => a (of_decide_eq_true q))]
      exact ⟨st.trans (pbr_pos (by rw [i_le, nI_int (by omega), hc]; omega)), hs⟩
theorem greedy {ms od yg sheets marsh oldest youngest : A32} {n : Nat} {m o y : Nat → Nat} (H : ShOK ms od yg sheets marsh oldest youngest n m o y) : ∀ (q j fu fv t : Nat) (cur : Int) (x x1 : Int32), ctF (aft o cur) n 0 ≤ q → j + q ≤ 12 → q < fu → q + 1 < fv → Ms x n (aft o cur) → x1.toInt = cur → -1 ≤ cur → ∃ g : Nat, f_X6_fewestYears_9 (nI n) yg od fu x (nI t) (nI j) = some (nI g) ∧ f_X12_slips_6 sheets oldest youngest marsh fv x1 (nI t) 1 = f_X12_slips_105 sheets oldest youngest marsh FU (nI g) 0 ∧ g ≤ t + q := by
  have H' := H
  obtain ⟨n1, n2, hn⟩ := H'
  intro q
  induction q with
  | zero =>
    intro j fu fv t cur x x1 h1 h2 h3 h4 h5 h6 h7
    have hz : ∀ i, i < n → aft o cur i = false := (ctF_0 _ n).mp (by omega)
    have hmn : mnF (aft o cur) y n 1000000 = 1000000 := by
      obtain ⟨a1, a2, a3⟩ := mnF_spec (aft o cur) y 1000000 n
      rcases a3 with a3 | ⟨i, i1, i2, -⟩
      · exact a3
      · rw [hz i i1] at i2; cases i2
    obtain ⟨f, rfl⟩ : ∃ f, fu = f + 1 := ⟨fu - 1, by omega⟩
    obtain ⟨f', rfl⟩ : ∃ f, fv = f + 1 := ⟨fv - 1, by omega⟩
    obtain ⟨f'', rfl⟩ : ∃ f, f' = f + 1 := ⟨f' - 1, by omega⟩
    refine ⟨t, ?_, ?_, by omega⟩
    · rw [f_X6_fewestYears_9, pbr_pos (show x = 0 from (h5.eq0 n1).mpr hz)]
      by_cases c : (12 : Int32) ≤ nI j
      · rw [pbr_pos c]
      · rw [pbr_neg c]
    · rw [f_X12_slips_6, pbr_neg (show ¬ (1 : Int32) = 0 by decide), mslip_in H _ h6, hmn, bI_neg (by omega)]
      unfold f_X12_slips_83
      rw [pbr_pos rfl, plt_eq, Int32.add_zero, f_X12_slips_6, pbr_pos rfl]
  | succ q ih =>
    intro j fu fv t cur x x1 h1 h2 h3 h4 h5 h6 h7
    by_cases hz : ∀ i, i < n → aft o cur i = false
    · exact (ih j fu fv t cur x x1 (by rw [(ctF_0 _ n).mpr hz]; omega) (by omega) (by omega) (by omega) h5 h6 h7).imp (fun g h => ⟨h.1, h.2.1, by omega⟩)
    · have hx : ∃ i, i < n ∧ aft o cur i = true := by
        apply Classical.byContradiction
        intro c
        exact hz (fun i hi => eq_false_of_ne_true (fun e => c ⟨i, hi, e⟩))
      obtain ⟨e1, k, k1, k2, k3⟩ := mn_two (s1 := 9999) (s2 := 1000000) (fun i hi => (hn i hi).2.2.1) (fun i hi => Nat.le_trans (hn i hi).2.2.1 (by omega)) hx
      have hmin := (mnF_spec (aft o cur) y 9999 n).2.1
      have hle : mnF (aft o cur) y n 9999 ≤ 9999 := mnF_le _ _ _ _
      obtain ⟨f, rfl⟩ : ∃ f, fu = f + 1 := ⟨fu - 1, by omega⟩
      obtain ⟨f', rfl⟩ : ∃ f, fv = f + 1 := ⟨fv - 1, by omega⟩
      obtain ⟨xa, xa1, xa2⟩ := at_eq H hle
      have kk := of_decide_eq_true k2
      have hk := hn k k1
      have hnew : Ms (x &&& (xa ^^^ (-1))) n (aft o (mnF (aft o cur) y n 9999 : Nat)) := by
        refine (h5.minus xa2).cut (fun i hi => ?_)
        have g1 := hn i hi
        by_cases a : cur < (o i : Int)
        · have ha : aft o cur i = true := decide_eq_true a
          have b := hmin i hi ha
          by_cases c : o i ≤ mnF (aft o cur) y n 9999
          · rw [ha, show atY o y (mnF (aft o cur) y n 9999) i = true from decide_eq_true ⟨c, b⟩]
            exact (decide_eq_false (by omega)).symm
          · rw [ha, show atY o y (mnF (aft o cur) y n 9999) i = false from decide_eq_false (fun q => c q.1)]
            exact (decide_eq_true (by omega)).symm
        · rw [show aft o cur i = false from decide_eq_false a, Bool.false_and]
          exact (decide_eq_false (by omega)).symm
      have hless : ctF (aft o (mnF (aft o cur) y n 9999 : Nat)) n 0 < ctF (aft o cur) n 0 := (ctF_lt (fun i hi hq => by
        have := of_decide_eq_true hq
        exact decide_eq_true (by omega))).2 ⟨k, k1, k2, decide_eq_false (by omega)⟩
      obtain ⟨g, g1, g2, g3⟩ := ih (j + 1) f f' (t + 1) (mnF (aft o cur) y n 9999 : Nat) _ (nI (mnF (aft o cur) y n 9999)) (by omega) (by omega) (by omega) (by omega) hnew (nI_int (by omega)) (by omega)
      refine ⟨g, ?_, ?_, by omega⟩
      · rw [f_X6_fewestYears_9, pbr_neg (show ¬ (12 : Int32) ≤ nI j from le_f (a := 12) (by omega)), pbr_neg (fun c => hz ((h5.eq0 n1).mp c)), last_eq H h5, pcl_some, xa1, pcl_some]
        simp only [plt_eq, nI_1]
        exact g1
      · rw [f_X12_slips_6, pbr_neg (show ¬ (1 : Int32) = 0 by decide), mslip_in H _ h6, ← e1, bI_pos (by omega)]
        unfold f_X12_slips_83
        rw [pbr_neg (show ¬ (1 : Int32) = 0 by decide), plt_eq, nI_1]
        exact g2
/-- the most sheets of one marsh -/
def moF (m : Nat → Nat) (n : Nat) (k : Nat) (s : Nat) : Nat := fold (fun v a => if a < ctF (fun i => decide (m i = v)) n 0 then ctF (fun i => decide (m i = v)) n 0 else a) k s
theorem most_eq {ms od yg sheets marsh oldest youngest : A32} {n : Nat} {m o y : Nat → Nat} (H : ShOK ms od yg sheets marsh oldest youngest n m o y) : f_X6_mostOfOneMarsh (nI n) ms = some (nI (moF m n 6 0)) := by
  obtain ⟨n1, n2, hn⟩ := H
  refine (loop_up (fun fu i (s : Nat) => f_X6_mostOfOneMarsh_4 (nI n) ms fu (nI s) i) (fun v a => if a < ctF (fun i => decide (m i = v)) n 0 then ctF (fun i => decide (m i = v)) n 0 else a) (fun s => some (nI s)) (fun _ s => s ≤ 12) 6 (by omega) (fun fu s hs => ?_) (fun fu v s hv hs => ?_) 0 (by omega)).1
  · show f_X6_mostOfOneMarsh_4 (nI n) ms (fu + 1) (nI s) (nI 6) = _
    rw [f_X6_mostOfOneMarsh_4, pbr_pos (show (6 : Int32) ≤ nI 6 by decide)]
  · have hs' : s ≤ 12 := hs
    have hc := ctF_le (fun i => decide (m i = v)) n 0
    refine ⟨?_, ite_le (by omega) hs⟩
    show f_X6_mostOfOneMarsh_4 (nI n) ms (fu + 1) (nI s) (nI v) = f_X6_mostOfOneMarsh_4 (nI n) ms fu (nI _) (nI (v + 1))
    rw [f_X6_mostOfOneMarsh_4, pbr_neg (show ¬ (6 : Int32) ≤ nI v from le_f (a := 6) hv)]
    have key := loop_up0 (fun fw i (c : Nat) => f_X6_mostOfOneMarsh_15 (f_X6_mostOfOneMarsh_4 (nI n) ms fu) (nI n) ms fw (nI s) (nI v) (nI c) i) (fun i a => if decide (m i = v) = true then a + 1 else a) (fun c => f_X6_mostOfOneMarsh_4 (nI n) ms fu (if nI s < nI c then nI c else nI s) (nI (v + 1))) n (by omega) (fun fw c => ?_) (fun fw i c hi => ?_) 0
    · refine Eq.trans key ?_
      show f_X6_mostOfOneMarsh_4 (nI n) ms fu (if nI s < nI (ctF (fun i => decide (m i = v)) n 0) then _ else _) _ = _
      by_cases e : s < ctF (fun i => decide (m i = v)) n 0
      · rw [if_pos e, if_pos (lt_t e)]; rfl
      · rw [if_neg e, if_neg (lt_f (by omega))]
    · show f_X6_mostOfOneMarsh_15 (f_X6_mostOfOneMarsh_4 (nI n) ms fu) (nI n) ms (fw + 1) (nI s) (nI v) (nI c) (nI n) = _
      rw [f_X6_mostOfOneMarsh_15, pbr_pos (le_t (by omega))]
      simp only [plt_eq, nI_1]
    · show f_X6_mostOfOneMarsh_15 (f_X6_mostOfOneMarsh_4 (nI n) ms fu) (nI n) ms (fw + 1) (nI s) (nI v) (nI c) (nI i) = f_X6_mostOfOneMarsh_15 (f_X6_mostOfOneMarsh_4 (nI n) ms fu) (nI n) ms fw (nI s) (nI v) (nI (if decide (m i = v) = true then c + 1 else c)) (nI (i + 1))
      obtain ⟨h1, -, -, h4, -⟩ := hn i hi
      rw [f_X6_mostOfOneMarsh_15, pbr_neg (le_f hi), pgd_pos (pin_nI (by omega) (by omega))]
      simp only [plt_eq, nI_1, nI_cl (show i < 2147483648 by omega), h4]
      by_cases e : m i = v
      · rw [pbr_pos (by rw [e]), if_pos (decide_eq_true e)]
      · rw [pbr_neg (eq_f e), if_neg (fun q => e (of_decide_eq_true q))]
theorem mmost_eq {ms od yg sheets marsh oldest youngest : A32} {n : Nat} {m o y : Nat → Nat} (H : ShOK ms od yg sheets marsh oldest youngest n m o y) {g : Nat} (hg : g ≤ 12) : f_X12_slips_105 sheets oldest youngest marsh FU (nI g) 0 = some (nI (moF m n 6 g)) := by
  obtain ⟨n1, n2, hn⟩ := H
  refine (loop_up (fun fu i (s : Nat) => f_X12_slips_105 sheets oldest youngest marsh fu (nI s) i) (fun v a => if a < ctF (fun i => decide (m i = v)) n 0 then ctF (fun i => decide (m i = v)) n 0 else a) (fun s => some (nI s)) (fun _ s => s ≤ 12) 6 (by omega) (fun fu s hs => ?_) (fun fu v s hv hs => ?_) g hg).1
  · show f_X12_slips_105 sheets oldest youngest marsh (fu + 1) (nI s) (nI 6) = _
    rw [f_X12_slips_105, pbr_pos (show (6 : Int32) ≤ nI 6 by decide)]
  · have hs' : s ≤ 12 := hs
    have hc := ctF_le (fun i => decide (m i = v)) n 0
    refine ⟨?_, ite_le (by omega) hs⟩
    show f_X12_slips_105 sheets oldest youngest marsh (fu + 1) (nI s) (nI v) = f_X12_slips_105 sheets oldest youngest marsh fu (nI _) (nI (v + 1))
    rw [f_X12_slips_105, pbr_neg (show ¬ (6 : Int32) ≤ nI v from le_f (a := 6) hv)]
    have key := loop_up0 (fun fw i (c : Nat) => f_X12_slips_118 (f_X12_slips_105 sheets oldest youngest marsh fu) sheets oldest youngest marsh fw (nI s) (nI v) (nI c) i) (fun i a => if decide (m i = v) = true then a + 1 else a) (fun c => pbr (nI c ≤ nI s) (f_X12_slips_105 sheets oldest youngest marsh fu (nI s) (nI (v + 1))) (f_X12_slips_105 sheets oldest youngest marsh fu (nI c) (nI (v + 1)))) n (by omega) (fun fw c => ?_) (fun fw i c hi => ?_) 0
    · refine Eq.trans key ?_
      show pbr (nI (ctF (fun i => decide (m i = v)) n 0) ≤ nI s) _ (f_X12_slips_105 sheets oldest youngest marsh fu (nI (ctF (fun i => decide (m i = v)) n 0)) (nI (v + 1))) = _
      by_cases e : s < ctF (fun i => decide (m i = v)) n 0
      · rw [if_pos e, pbr_neg (le_f e)]
      · rw [if_neg e, pbr_pos (le_t (by omega))]
    · show f_X12_slips_118 (f_X12_slips_105 sheets oldest youngest marsh fu) sheets oldest youngest marsh (fw + 1) (nI s) (nI v) (nI c) (nI n) = _
      rw [f_X12_slips_118, cl_0, n2, pbr_pos (le_t (by omega))]
      simp only [plt_eq, nI_1]
    · show f_X12_slips_118 (f_X12_slips_105 sheets oldest youngest marsh fu) sheets oldest youngest marsh (fw + 1) (nI s) (nI v) (nI c) (nI i) = f_X12_slips_118 (f_X12_slips_105 sheets oldest youngest marsh fu) sheets oldest youngest marsh fw (nI s) (nI v) (nI (if decide (m i = v) = true then c + 1 else c)) (nI (i + 1))
      obtain ⟨h1, -, -, -, h5, -⟩ := hn i hi
      rw [f_X12_slips_118, cl_0, n2, pbr_neg (le_f hi), pgd_pos (pin_nI (by omega) (by omega))]
      simp only [f_X12_slips_148, plt_eq, nI_1, Int32.add_zero, nI_cl (show i < 2147483648 by omega), h5]
      by_cases e : m i = v
      · rw [pbr_pos (by rw [e]), if_pos (decide_eq_true e)]
      · rw [pbr_neg (eq_f e), if_neg (fun q => e (of_decide_eq_true q))]
theorem moF_max (m : Nat → Nat) (n g : Nat) : ∀ k, moF m n k g = if g < moF m n k 0 then moF m n k 0 else g
  | 0 => by show g = if g < 0 then 0 else g; rw [if_neg (by omega)]
  | k + 1 => by
    have e : ∀ s, moF m n (k + 1) s = if moF m n k s < ctF (fun i => decide (m i = k)) n 0 then ctF (fun i => decide (m i = k)) n 0 else moF m n k s := fun s => rfl
    rw [e g, e 0, moF_max m n g k]
    generalize ctF (fun i => decide (m i = k)) n 0 = c
    generalize moF m n k 0 = z
    by_cases a : g < z
    · rw [if_pos a]
      by_cases b : z < c
      · rw [if_pos b, if_pos (by omega)]
      · rw [if_neg b, if_pos a]
    · rw [if_neg a]
      by_cases b : z < c
      · rw [if_pos b]
      · rw [if_neg b, if_neg (by omega), if_neg a]
theorem moF_le (m : Nat → Nat) (n : Nat) : ∀ k, moF m n k 0 ≤ n
  | 0 => Nat.zero_le n
  | k + 1 => by
    have := ctF_le (fun i => decide (m i = k)) n 0
    exact ite_le (by omega) (moF_le m n k)
theorem op_slips {ms od yg sheets marsh oldest youngest : A32} {ct : Int32} (h : RSh 0 ms od yg ct sheets marsh oldest youngest) : ∃ r, f_X11_slips ct yg od ms = some r ∧ f_X12_slips sheets oldest youngest marsh = some r := by
  obtain ⟨n, rfl, H⟩ := h.ok
  have H' := H
  obtain ⟨n1, n2, hn⟩ := H'
  obtain ⟨g, g1, g2, g3⟩ := greedy H 12 0 FU FU 0 (-1) ((1 <<< (nI n &&& 31)) - 1) (-1) (by have := ctF_le (aft (fun i => (od i).toNatClampNeg) (-1)) n 0; omega) (by omega) (by have := FU_big; omega) (by have := FU_big; omega) ((ms_all n1).cut (fun i hi => (decide_eq_true (by omega)).symm)) (by decide) (by omega)
  unfold f_X11_slips f_X6_fewestYears f_X6_all f_X12_slips
  rw [pcl_some, show (0 : Int32) = nI 0 from rfl, g1, g2, mmost_eq H (by omega), most_eq H, pcl_some, pcl_some, moF_max _ n g 6]
  refine ⟨_, rfl, ?_⟩
  have := moF_le (fun i => (ms i).toNatClampNeg) n 6
  by_cases e : g < moF (fun i => (ms i).toNatClampNeg) n 6 0
  · rw [if_pos e, if_pos (lt_t e)]
  · rw [if_neg e, if_neg (lt_f (by omega))]
