/-! ===== the common part of two numbers ===== -/
theorem lN0 {b : Nat} (hb : b < 2 ^ 63) : lN b = 0 ↔ b = 0 := pk_lEQ (b := 0) hb (by omega)
theorem lg0 : lg_cmp (lN 0) 0 = 0 := (lg_cmp_eq _ _).mpr rfl
theorem gcd_step (a b : Nat) : Nat.gcd b (a % b) = Nat.gcd a b := by rw [Nat.gcd_comm, ← Nat.gcd_rec, Nat.gcd_comm]
theorem half_mod {b r k : Nat} (hr : 0 < r) (hrb : r < b) (hb : b < 2 ^ (k + 1)) : b % r < 2 ^ k := by
  rw [Nat.pow_succ] at hb
  have h1 := Nat.mod_lt b hr
  by_cases h : 2 * r ≤ b
  · omega
  · have e : b % r = b - r := by
      rw [Nat.mod_eq_sub_mod (by omega), Nat.mod_eq_of_lt (by omega)]
    omega
theorem cgcd (x0 x2 : Int64) : ∀ (k a b fu j : Nat), b < 2 ^ k → a < 2 ^ 63 → b < 2 ^ 63 → 2 * k + 1 ≤ fu → j + 2 * k ≤ 127 → f_X11_commonPart_9 x0 x2 fu (lN a) (lN b) (nI j) = some (lN (Nat.gcd a b))
  | 0, a, b, fu, j, hb, ha, hb2, hf, hj => by
    obtain ⟨f, rfl⟩ : ∃ f, fu = f + 1 := ⟨fu - 1, by omega⟩
    have e : b = 0 := by rw [Nat.pow_zero] at hb; omega
    subst e
    rw [f_X11_commonPart_9, pbr_neg (show ¬ (128 : Int32) ≤ nI j from le_f (a := 128) (by omega)), pbr_pos lg0, Nat.gcd_zero_right]
  | k + 1, a, b, fu, j, hb, ha, hb2, hf, hj => by
    obtain ⟨f, rfl⟩ : ∃ f, fu = f + 1 := ⟨fu - 1, by omega⟩
    rw [f_X11_commonPart_9, pbr_neg (show ¬ (128 : Int32) ≤ nI j from le_f (a := 128) (by omega))]
    by_cases e : b = 0
    · subst e
      rw [pbr_pos lg0, Nat.gcd_zero_right]
    · have hm := Nat.mod_lt a (show 0 < b by omega)
      rw [pbr_neg (fun q => e ((lN0 hb2).mp ((lg_cmp_eq _ _).mp q))), pgd_pos (fun q => e ((lN0 hb2).mp q)), pk_lRem ha (by omega) hb2]
      simp only [plt_eq, nI_1]
      obtain ⟨f', rfl⟩ : ∃ f', f = f' + 1 := ⟨f - 1, by omega⟩
      rw [f_X11_commonPart_9, pbr_neg (show ¬ (128 : Int32) ≤ nI (j + 1) from le_f (a := 128) (by omega))]
      by_cases e2 : a % b = 0
      · rw [e2, pbr_pos lg0, ← gcd_step, e2, Nat.gcd_zero_right]
      · rw [pbr_neg (fun q => e2 ((lN0 (by omega)).mp ((lg_cmp_eq _ _).mp q))), pgd_pos (fun q => e2 ((lN0 (by omega)).mp q)), pk_lRem hb2 (by omega) (by omega)]
        simp only [plt_eq, nI_1]
        have h2 := half_mod (k := k) (show 0 < a % b by omega) hm hb
        have h3 := Nat.mod_lt b (show 0 < a % b by omega)
        rw [cgcd x0 x2 k (a % b) (b % (a % b)) f' (j + 1 + 1) h2 (by omega) (by omega) (by omega) (by omega), gcd_step, gcd_step]
theorem mgcd (x0 x2 : Int64) : ∀ (k a b fu : Nat), b < 2 ^ k → a < 2 ^ 63 → b < 2 ^ 63 → 2 * k + 1 ≤ fu → f_X12_common_6 x0 x2 fu (lN a) (lN b) = some (lN (Nat.gcd a b))
  | 0, a, b, fu, hb, ha, hb2, hf => by
    obtain ⟨f, rfl⟩ : ∃ f, fu = f + 1 := ⟨fu - 1, by omega⟩
    have e : b = 0 := by rw [Nat.pow_zero] at hb; omega
    subst e
    rw [f_X12_common_6, pbr_pos lg0, Nat.gcd_zero_right]
  | k + 1, a, b, fu, hb, ha, hb2, hf => by
    obtain ⟨f, rfl⟩ : ∃ f, fu = f + 1 := ⟨fu - 1, by omega⟩
    rw [f_X12_common_6]
    by_cases e : b = 0
    · subst e
      rw [pbr_pos lg0, Nat.gcd_zero_right]
    · have hm := Nat.mod_lt a (show 0 < b by omega)
      rw [pbr_neg (fun q => e ((lN0 hb2).mp ((lg_cmp_eq _ _).mp q))), pgd_pos (fun q => e ((lN0 hb2).mp q)), pk_lRem ha (by omega) hb2, plt_eq]
      obtain ⟨f', rfl⟩ : ∃ f', f = f' + 1 := ⟨f - 1, by omega⟩
      rw [f_X12_common_6]
      by_cases e2 : a % b = 0
      · rw [e2, pbr_pos lg0, ← gcd_step, e2, Nat.gcd_zero_right]
      · rw [pbr_neg (fun q => e2 ((lN0 (by omega)).mp ((lg_cmp_eq _ _).mp q))), pgd_pos (fun q => e2 ((lN0 (by omega)).mp q)), pk_lRem hb2 (by omega) (by omega), plt_eq]
        have h2 := half_mod (k := k) (show 0 < a % b by omega) hm hb
        have h3 := Nat.mod_lt b (show 0 < a % b by omega)
        rw [mgcd x0 x2 k (a % b) (b % (a % b)) f' h2 (by omega) (by omega) (by omega), gcd_step, gcd_step]
theorem comPart_eq {a b : Nat} (ha : a < 2 ^ 60) (hb : b < 2 ^ 60) : f_X11_commonPart (lN a) (lN b) = some (lN (Nat.gcd a b)) :=
  cgcd (lN a) (lN b) 60 a b FU 0 hb (by omega) (by omega) (by have := FU_big; omega) (by omega)
theorem common_eq {a b : Nat} (ha : a < 2 ^ 60) (hb : b < 2 ^ 60) : f_X12_common (lN a) (lN b) = some (lN (Nat.gcd a b)) :=
  mgcd (lN a) (lN b) 60 a b FU hb (by omega) (by omega) (by have := FU_big; omega)
theorem inLeast_eq {a b : Nat} (ha : a < 2 ^ 60) (hb : b < 2 ^ 60) (hb0 : 0 < b) (x : Int32) : f_X12_inLeast (lN a) (lN b) x = some (if x = 0 then lN (a / Nat.gcd a b) else lN (b / Nat.gcd a b)) := by
  have hg : 0 < Nat.gcd a b := Nat.gcd_pos_of_pos_right a hb0
  have hg2 : Nat.gcd a b ≤ b := Nat.gcd_le_right a hb0
  unfold f_X12_inLeast
  have hne : ¬ lN (Nat.gcd a b) = 0 := fun q => absurd ((lN0 (by omega)).mp q) (by omega)
  rw [common_eq ha hb, pcl_some, pgd_pos hne, pgd_pos hne, pk_lDiv (by omega) hg (by omega), pk_lDiv (by omega) hg (by omega)]
  by_cases e : x = 0
  · rw [pbr_pos e, if_pos e]
  · rw [pbr_neg e, if_neg e]
theorem foldI_shift {σ : Type} (st : Nat → σ → σ) : ∀ (d : Nat) (s : σ), foldI st 1 d s = fold (fun j => st (j + 1)) d s
  | 0, s => rfl
  | d + 1, s => by
    rw [foldI_snoc, foldI_shift st d s, Nat.add_comm 1 d]
    rfl
/-! ===== known slips in numbers ===== -/
def KnOK (yr known knowns : A32) (n : Nat) (y : Nat → Nat) : Prop := n ≤ 16 ∧ knowns 0 = nI n ∧ (∀ i, i < n → y i ≤ 9999 ∧ yr i = nI (y i) ∧ known i = nI (y i)) ∧ ∀ i, i + 1 < n → y i < y (i + 1)
theorem RKn.ok {yr knowns known : A32} {ct : Int32} (h : RKn 0 yr ct knowns known) : ∃ n y, ct = nI n ∧ KnOK yr known knowns n y := by
  obtain ⟨n, n1, n2, n3, hn, hm⟩ := h
  have hq : ∀ i, i < n → (yr i).toNatClampNeg ≤ 9999 ∧ yr i = nI (yr i).toNatClampNeg ∧ known i = nI (yr i).toNatClampNeg := fun i hi => by
    obtain ⟨y, y1, y2, y3⟩ := hn i hi
    rw [Nat.mul_zero, Nat.zero_add] at y3
    have e : (yr i).toNatClampNeg = y := by rw [y2, nI_cl (by omega)]
    rw [e]
    exact ⟨y1, y2, y3⟩
  refine ⟨n, fun i => (yr i).toNatClampNeg, n2, n1, n3, hq, fun i hi => ?_⟩
  have a := hm i hi
  obtain ⟨a1, a2, -⟩ := hq i (by omega)
  obtain ⟨b1, b2, -⟩ := hq (i + 1) hi
  rw [a2, b2, nI_lt_iff (by omega) (by omega)] at a
  exact a
/-- the gap after slip j -/
def gp (y : Nat → Nat) (j : Nat) : Nat := y (j + 1) - y j
theorem gp_rng {yr known knowns : A32} {n : Nat} {y : Nat → Nat} (H : KnOK yr known knowns n y) {j : Nat} (hj : j + 1 < n) : 1 ≤ gp y j ∧ gp y j ≤ 9999 := by
  have h1 := H.2.2.2 j hj
  have h2 := (H.2.2.1 (j + 1) hj).1
  unfold gp
  omega
theorem gap_eq {yr known knowns : A32} {n : Nat} {y : Nat → Nat} (H : KnOK yr known knowns n y) (hn : 1 ≤ n) {s : Nat} (hs : s ≤ 20000) : f_X3_gapsAbove (nI s) (nI n) yr = some (nI (ctF (fun j => decide (s < gp y j)) (n - 1) 0)) := by
  have H' := H
  obtain ⟨n1, n2, hy, hm⟩ := H'
  have key := (loop_upI (fun fu i (c : Nat) => f_X3_gapsAbove_4 (nI n) yr (nI s) fu (nI c) i) (fun i a => if decide (s < gp y (i - 1)) = true then a + 1 else a) (fun c => some (nI c)) (fun i _ => 1 ≤ i) n (fun fu c _ => ?_) (fun fu i c hi hI => ⟨?_, by omega⟩) (n - 1) 1 FU 0 (by omega) (by have := FU_big; omega) (Nat.le_refl 1)).1
  · refine Eq.trans key ?_
    rw [foldI_shift]
    rfl
  · show f_X3_gapsAbove_4 (nI n) yr (nI s) (fu + 1) (nI c) (nI n) = _
    rw [f_X3_gapsAbove_4, pbr_pos (le_t (by omega))]
  · show f_X3_gapsAbove_4 (nI n) yr (nI s) (fu + 1) (nI c) (nI i) = f_X3_gapsAbove_4 (nI n) yr (nI s) fu (nI (if decide (s < gp y (i - 1)) = true then c + 1 else c)) (nI (i + 1))
    have hI' : 1 ≤ i := hI
    obtain ⟨j, rfl⟩ : ∃ j, i = j + 1 := ⟨i - 1, by omega⟩
    have h1 := hm j hi
    have h2 := gp_rng H hi
    have eg : nI (y (j + 1)) - nI (y j) = nI (gp y j) := nI_sub (by omega)
    rw [f_X3_gapsAbove_4, pbr_neg (le_f hi), pgd_pos (pin_nI (by omega) (by omega)), nI_pred, pgd_pos (pin_nI (by omega) (by omega))]
    simp only [nI_cl (show j + 1 < 2147483648 by omega), nI_cl (show j < 2147483648 by omega), (hy (j + 1) hi).2.1, (hy j (by omega)).2.1, eg, plt_eq, nI_1]
    rw [show j + 1 - 1 = j by omega]
    by_cases e : s < gp y j
    · rw [pbr_neg (le_f e), if_pos (decide_eq_true e)]
    · rw [pbr_pos (le_t (by omega)), if_neg (fun q => e (of_decide_eq_true q))]
theorem ct_diff (y : Nat → Nat) (s x : Nat) : ∀ n, ctF (fun j => decide (s < gp y j ∧ gp y j ≤ s + x)) n 0 + ctF (fun j => decide (s + x < gp y j)) n 0 = ctF (fun j => decide (s < gp y j)) n 0
  | 0 => rfl
  | n + 1 => by
    have ih := ct_diff y s x n
    have e : ∀ P : Nat → Bool, ctF P (n + 1) 0 = if P n = true then ctF P n 0 + 1 else ctF P n 0 := fun P => rfl
    rw [e, e, e]
    simp only [decide_eq_true_eq]
    by_cases a : s < gp y n
    · rw [if_pos a]
      by_cases b : gp y n ≤ s + x
      · rw [if_pos ⟨a, b⟩, if_neg (by omega)]; omega
      · rw [if_neg (fun q => b q.2), if_pos (by omega)]; omega
    · rw [if_neg a, if_neg (fun q => a q.1), if_neg (by omega)]; omega
theorem mnext {yr known knowns tune : A32} {n : Nat} {y : Nat → Nat} (H : KnOK yr known knowns n y) (hn : 1 ≤ n) {s x : Nat} (hs : s ≤ 9999) (hx : x ≤ 9999) (x2 : Int32) : f_X12_next_85 knowns tune known (nI x) x2 FU (nI s) 0 0 1 = (fun t : Nat × Nat => pbr (nI t.1 = 0) (some 1) (pcl (f_X12_inLeast (nI t.2).toInt64 (nI t.1).toInt64 x2) (fun r => some r.toInt32))) (ctF (fun j => decide (s < gp y j)) (n - 1) 0, ctF (fun j => decide (s < gp y j ∧ gp y j ≤ s + x)) (n - 1) 0) := by
  have H' := H
  obtain ⟨n1, n2, hy, hm⟩ := H'
  have key := (loop_upI (fun fu i (t : Nat × Nat) => f_X12_next_85 knowns tune known (nI x) x2 fu (nI s) (nI t.1) (nI t.2) i) (fun i t => ((if decide (s < gp y (i - 1)) = true then t.1 + 1 else t.1), (if decide (s < gp y (i - 1) ∧ gp y (i - 1) ≤ s + x) = true then t.2 + 1 else t.2))) (fun t : Nat × Nat => pbr (nI t.1 = 0) (some 1) (pcl (f_X12_inLeast (nI t.2).toInt64 (nI t.1).toInt64 x2) (fun r => some r.toInt32))) (fun i _ => 1 ≤ i) n (fun fu t _ => ?_) (fun fu i t hi hI => ⟨?_, by omega⟩) (n - 1) 1 FU (0, 0) (by omega) (by have := FU_big; omega) (Nat.le_refl 1)).1
  · refine Eq.trans key ?_
    rw [foldI_shift]
    have e : ∀ d, fold (fun j (t : Nat × Nat) => ((if decide (s < gp y (j + 1 - 1)) = true then t.1 + 1 else t.1), (if decide (s < gp y (j + 1 - 1) ∧ gp y (j + 1 - 1) ≤ s + x) = true then t.2 + 1 else t.2))) d (0, 0) = (ctF (fun j => decide (s < gp y j)) d 0, ctF (fun j => decide (s < gp y j ∧ gp y j ≤ s + x)) d 0) := fun d => by
      unfold ctF
      induction d with
      | zero => rfl
      | succ d ih =>
        simp only [fold]
        rw [ih]
        rfl
    rw [e]
  · show f_X12_next_85 knowns tune known (nI x) x2 (fu + 1) (nI s) (nI t.1) (nI t.2) (nI n) = _
    rw [f_X12_next_85, cl_0, n2, pbr_pos (le_t (by omega))]
  · show f_X12_next_85 knowns tune known (nI x) x2 (fu + 1) (nI s) (nI t.1) (nI t.2) (nI i) = f_X12_next_85 knowns tune known (nI x) x2 fu (nI s) (nI (if decide (s < gp y (i - 1)) = true then t.1 + 1 else t.1)) (nI (if decide (s < gp y (i - 1) ∧ gp y (i - 1) ≤ s + x) = true then t.2 + 1 else t.2)) (nI (i + 1))
    have hI' : 1 ≤ i := hI
    obtain ⟨j, rfl⟩ : ∃ j, i = j + 1 := ⟨i - 1, by omega⟩
    have h1 := hm j hi
    have h2 := gp_rng H hi
    have eg : nI (y (j + 1)) - nI (y j) = nI (gp y j) := nI_sub (by omega)
    rw [f_X12_next_85, cl_0, n2, pbr_neg (le_f hi), pgd_pos (pin_nI (by omega) (by omega)), nI_pred, pgd_pos (pin_nI (by omega) (by omega))]
    simp only [nI_cl (show j + 1 < 2147483648 by omega), nI_cl (show j < 2147483648 by omega), (hy (j + 1) hi).2.2, (hy j (by omega)).2.2, eg, f_X12_next_128, f_X12_next_151, f_X12_next_152, plt_eq, nI_1, Int32.add_zero, nI_add]
    rw [show j + 1 - 1 = j by omega]
    simp only [decide_eq_true_eq]
    by_cases a : s < gp y j
    · rw [pbr_neg (le_f a), pbr_neg (le_f a), if_pos a]
      by_cases b : gp y j ≤ s + x
      · rw [pbr_neg (lt_f b), if_pos ⟨a, b⟩]
      · rw [pbr_pos (lt_t (by omega)), if_neg (fun q => b q.2)]
    · rw [pbr_pos (le_t (by omega)), pbr_pos (le_t (by omega)), if_neg a, if_neg (fun q => a q.1)]
theorem op_next {yr knowns known tune : A32} {ct now pc fd : Int32} (h : RKn 0 yr ct knowns known) (ht : RTu pc fd now tune) (x1 x2 : Int32) : ∃ r, f_X11_next x1 x2 now ct yr = some r ∧ f_X12_next x1 x2 knowns tune known = some r := by
  obtain ⟨n, y, rfl, H⟩ := h.ok
  have H' := H
  obtain ⟨n1, n2, hy, hm⟩ := H'
  obtain ⟨-, -, w, w1, rfl, w2⟩ := ht
  unfold f_X11_next f_X12_next f_X3_outlook
  simp only [within_eq, in_eq, isBit_eq, pcl_some, pbr_bI, plt_eq, cl_0, cl_2, n2, w2]
  by_cases c1 : 0 ≤ x1 ∧ x1 ≤ 9999
  case neg =>
    rw [pbr_neg c1, pbr_neg c1]; exact ⟨_, rfl, rfl⟩
  rw [pbr_pos c1, pbr_pos c1]
  obtain ⟨x, -, hx, rfl⟩ := of_span (a := 0) (b := 9999) (by omega) (by omega) c1.1 c1.2
  by_cases d : x2 = 0 ∨ x2 = 1
  case neg =>
    rw [pbr_neg d, pbr_neg (fun q => d ((bit_span x2).mpr q))]; exact ⟨_, rfl, rfl⟩
  rw [pbr_pos d, pbr_pos ((bit_span x2).mp d)]
  by_cases e : n < 2
  · rw [pbr_pos (show nI n < 2 from lt_t (b := 2) e), pbr_pos (show nI n < 2 from lt_t (b := 2) e)]; exact ⟨_, rfl, rfl⟩
  rw [pbr_neg (show ¬ nI n < 2 from lt_f (b := 2) (by omega)), pbr_neg (show ¬ nI n < 2 from lt_f (b := 2) (by omega))]
  obtain ⟨k, rfl⟩ : ∃ k, n = k + 1 := ⟨n - 1, by omega⟩
  obtain ⟨q1, q2, q3⟩ := hy k (by omega)
  simp only [nI_pred, nI_cl (show k < 2147483648 by omega), q2, q3]
  rw [pgd_pos (pin_nI (by omega) (by omega)), pgd_pos (pin_nI (by omega) (by omega))]
  by_cases f : y k ≤ w
  case neg =>
    rw [pbr_neg (le_f (by omega)), pbr_neg (le_f (by omega))]; exact ⟨_, rfl, rfl⟩
  rw [pbr_pos (le_t f), pbr_pos (le_t f), nI_sub f, gap_eq H (by omega) (by omega), mnext H (by omega) (by omega) hx, pcl_some, nI_add, gap_eq H (by omega) (by omega), pcl_some]
  have hd := ct_diff y (w - y k) x (k + 1 - 1)
  have hc := ctF_le (fun j => decide (w - y k < gp y j)) (k + 1 - 1) 0
  revert hd hc
  generalize ctF (fun j => decide (w - y k < gp y j)) (k + 1 - 1) 0 = a
  generalize ctF (fun j => decide (w - y k < gp y j ∧ gp y j ≤ w - y k + x)) (k + 1 - 1) 0 = b
  generalize ctF (fun j => decide (w - y k + x < gp y j)) (k + 1 - 1) 0 = c
  intro hd hc
  dsimp only
  by_cases ha : a = 0
  · rw [pbr_pos (show nI a = 0 from by rw [ha]; rfl), pbr_pos (show nI a = 0 from by rw [ha]; rfl)]; exact ⟨_, rfl, rfl⟩
  have na : ¬ nI a = 0 := eq_f (b := 0) ha
  have hg : 0 < Nat.gcd b a := Nat.gcd_pos_of_pos_right b (by omega)
  have hg2 : Nat.gcd b a ≤ a := Nat.gcd_le_right b (by omega)
  have ng : ¬ nI (Nat.gcd b a) = 0 := eq_f (b := 0) (by omega)
  rw [pbr_neg na, pbr_neg na, nI_sub (show c ≤ a by omega), show a - c = b by omega, nI_l (by omega), nI_l (by omega), comPart_eq (by omega) (by omega), inLeast_eq (by omega) (by omega) (by omega), pcl_some, pcl_some, lN_i, pbr_neg ng, pgd_pos ng, pgd_pos ng]
  rw [pk_div (by omega) hg (by omega), pk_div (by omega) hg (by omega)]
  by_cases z : x2 = 0
  · rw [pbr_pos z, if_pos z, lN_i]; exact ⟨_, rfl, rfl⟩
  · rw [pbr_neg z, if_neg z, lN_i]; exact ⟨_, rfl, rfl⟩
