/-! ===== ocean(): the text is read ===== -/
theorem byteAt_in {bt : A32} {i t : Nat} (h : i < t) (ht : t ≤ 400) : f_X9_byteAt (nI i) (nI t) bt = some (bt i &&& 255) := by
  unfold f_X9_byteAt
  rw [pbr_neg (nI_pos (by omega)), pbr_neg (nI_ge h (by omega)), pgd_pos (pin_nI (by omega) (by omega)), nI_cl (by omega)]
theorem isFigure_in {bt : A32} {i t : Nat} (h : i < t) (ht : t ≤ 400) : f_X9_isFigure (nI i) (nI t) bt = some (bI (48 ≤ bt i &&& 255 ∧ bt i &&& 255 ≤ 57)) := by
  unfold f_X9_isFigure
  rw [byteAt_in h ht, pcl_some]
  exact within_eq (bt i &&& 255) 48 57
theorem rem9 {n : Nat} (h : n ≤ 54) : nI n - nI n / 9 * 9 = nI (n % 9) := pk_rem (d := 9) (by omega) (by omega) (by omega)
theorem rem9' {n : Nat} (h : n ≤ 54) : nI n - nI (n / 9) * 9 = nI (n % 9) := by rw [← pk_div (a := n) (d := 9) (by omega) (by omega) (by omega)]; exact rem9 h
theorem pbr_T {α : Type} {i : Decidable True} {a b : Option α} : @pbr α True i a b = a := pbr_pos trivial
theorem pbr_F {α : Type} {i : Decidable False} {a b : Option α} : @pbr α False i a b = b := pbr_neg id
theorem div9 {n : Nat} (h : n ≤ 54) : nI n / 9 = nI (n / 9) := pk_div (d := 9) (by omega) (by omega) (by omega)
theorem ocean_end (tx : A32) (k f x1 x3 : Nat) (ty : Int32) (md : A32) (hf : f ≤ 400) : f_X12_ocean_7 tx (k + 1) (nI x1) (nI f) (nI x3) ty md = some (-10 - nI f, ty, md) := by
  have hne : ¬ nI f = -9 := fun q => by
    have := nI_pos' (n := f) (by omega)
    rw [q] at this
    exact absurd this (by decide)
  have e : f_X12_ocean_152 tx (nI x1) (nI f) ty md = some (-10 - nI f, ty, md) := by
    unfold f_X12_ocean_152 f_X12_ocean_171 f_X12_ocean_172
    rw [pbr_neg hne, pbr_neg hne]
  rw [f_X12_ocean_7, e]
  by_cases c : ty ≤ nI x3
  · rw [pbr_pos c]
  · rw [pbr_neg c, pbr_neg hne]
/-- what both have read: the cells of the places ahead of n -/
def OcR (n : Nat) (fg md : A32) : Prop := ∀ c, c < 48 → 9 * (c / 8) + c % 8 < n → fg c = md (48 + c) ∧ ∃ d : Nat, d ≤ 9 ∧ fg c = nI d
theorem ocean_loop {bt tx : A32} {t : Nat} (ht : t ≤ 400) (hb : ∀ j, j < t → bt j = tx j ∧ ∃ b : Nat, b < 256 ∧ tx j = (nI b).toInt8.toInt32) : ∀ (d i n k k' : Nat) (fg md : A32), i + d = t → n ≤ 54 → d < k → d + 1 < k' → OcR n fg md →
    (∃ f fg' md', f ≤ 400 ∧ f_X4_read_4 (nI t) bt k (nI n) (nI i) fg = some (nI f, fg') ∧ f_X12_ocean_7 tx k' (nI n) (-9) (nI i) (nI t) md = some (-10 - nI f, nI t, md') ∧ ∀ j, j < 48 → md' j = md j) ∨
    (∃ fg' md', f_X4_read_4 (nI t) bt k (nI n) (nI i) fg = some (-1, fg') ∧ f_X12_ocean_7 tx k' (nI n) (-9) (nI i) (nI t) md = f_X12_ocean_186 tx FU 0 (nI t) md' ∧ OcR 54 fg' md' ∧ ∀ j, j < 48 → md' j = md j)
  | 0, i, n, k, k', fg, md, hi, hn, hk, hk', hR => by
    obtain ⟨k, rfl⟩ : ∃ q, k = q + 1 := ⟨k - 1, by omega⟩
    obtain ⟨k', rfl⟩ : ∃ q, k' = q + 1 := ⟨k' - 1, by omega⟩
    have e : i = t := by omega
    subst e
    rw [f_X4_read_4, f_X12_ocean_7, pbr_pos (nI_le (Nat.le_refl _) (by omega)), pbr_pos (nI_le (Nat.le_refl _) (by omega))]
    unfold f_X12_ocean_152 f_X12_ocean_171 f_X12_ocean_172
    rw [pbr_pos rfl]
    by_cases c : n = 54
    · subst c
      rw [pbr_pos (show (54 : Int32) ≤ nI 54 by decide), pbr_pos (show (54 : Int32) ≤ nI 54 by decide), pbr_pos rfl]
      exact Or.inr ⟨fg, md, rfl, rfl, hR, fun _ _ => rfl⟩
    · have c2 : ¬ (54 : Int32) ≤ nI n := nI_ge (b := 54) (by omega) (by omega)
      have hne : ¬ nI i = -9 := fun q => by
        have := nI_pos' (n := i) (by omega)
        rw [q] at this
        exact absurd this (by decide)
      rw [pbr_neg c2, pbr_neg c2, pbr_neg hne]
      exact Or.inl ⟨i, fg, md, ht, rfl, rfl, fun _ _ => rfl⟩
  | d + 1, i, n, k, k', fg, md, hi, hn, hk, hk', hR => by
    obtain ⟨k, rfl⟩ : ∃ q, k = q + 1 := ⟨k - 1, by omega⟩
    obtain ⟨k', rfl⟩ : ∃ q, k' = q + 1 := ⟨k' - 1, by omega⟩
    have hit : i < t := by omega
    have ih := ocean_loop ht hb d (i + 1)
    rw [f_X4_read_4, f_X12_ocean_7, pbr_neg (nI_ge hit (by omega)), pbr_neg (nI_ge hit (by omega)), pbr_pos rfl, pgd_pos (pin_nI (by omega) (by omega))]
    simp only [byteAt_in hit ht, isFigure_in hit ht, pcl_some, plt_eq, pbr_bI, nI_cl (show i < 2147483648 by omega), ← (hb i hit).1, div9 hn, rem9' hn, nI_1]
    generalize bt i &&& 255 = c
    by_cases c32 : c = 32
    · rw [pbr_pos c32, pbr_pos c32]
      exact ih n k k' fg md (by omega) hn (by omega) (by omega) hR
    rw [pbr_neg c32, pbr_neg c32]
    unfold f_X12_ocean_54 f_X12_ocean_93 f_X12_ocean_89 f_X12_ocean_94 f_X12_ocean_107
    simp only [in_eq, pcl_some, plt_eq, pbr_bI, div9 hn, rem9' hn, nI_1]
    obtain ⟨k', rfl⟩ : ∃ q, k' = q + 1 := ⟨k' - 1, by omega⟩
    have bad : f_X12_ocean_7 tx (k' + 1) (nI (n + 1)) (nI i) (nI (i + 1)) (nI t) md = some (-10 - nI i, nI t, md) := ocean_end tx k' i (n + 1) (i + 1) (nI t) md (by omega)
    have z00 : ∀ a b : Option (Int32 × Int32 × A32), pbr ((0 : Int32) = 0) a b = a := fun a b => pbr_pos rfl
    have z10 : ∀ a b : Option (Int32 × Int32 × A32), pbr ((1 : Int32) = 0) a b = b := fun a b => pbr_neg (by decide)
    simp only [z00, z10, pbr_T, pbr_F, bad]
    by_cases hn54 : n = 54
    · subst hn54
      rw [pbr_neg (show ¬ nI 54 < 54 by decide), pbr_neg (show ¬ nI (54 % 9) = 8 by decide), pbr_pos (show (54 : Int32) ≤ nI 54 by decide)]
      exact Or.inl ⟨i, fg, md, by omega, rfl, rfl, fun _ _ => rfl⟩
    have n54 : ¬ (54 : Int32) ≤ nI n := nI_ge (b := 54) (by omega) (by omega)
    rw [pbr_pos (show nI n < 54 from nI_lt (b := 54) (by omega) (by omega))]
    by_cases c8 : n % 9 = 8
    · have c8' : nI (n % 9) = 8 := by rw [c8]; rfl
      rw [pbr_pos c8', pbr_pos c8', pbr_neg n54]
      by_cases c59 : c = 59
      · rw [pbr_pos c59, pbr_pos c59]
        exact ih (n + 1) k (k' + 1) fg md (by omega) (by omega) (by omega) (by omega) (fun a ha hp => hR a ha (by omega))
      · rw [pbr_neg c59, pbr_neg c59]
        exact Or.inl ⟨i, fg, md, by omega, rfl, rfl, fun _ _ => rfl⟩
    · have c8' : ¬ nI (n % 9) = 8 := fun q => c8 ((nI_eq_iff (b := 8) (by omega) (by omega)).mp q)
      rw [pbr_neg c8', pbr_neg c8', pbr_neg n54]
      by_cases cd : 48 ≤ c ∧ c ≤ 57
      · rw [pbr_pos cd, pbr_pos cd]
        obtain ⟨v, v1, v2, rfl⟩ := of_span (a := 48) (b := 57) (by omega) (by omega) cd.1 cd.2
        have e1 : nI (n / 9) * 8 + nI (n % 9) = nI (8 * (n / 9) + n % 9) := by rw [show (8 : Int32) = nI 8 from rfl, nI_mul, nI_add, Nat.mul_comm]
        have e2 : (48 : Int32) + 8 * nI (n / 9) + nI (n % 9) = nI (48 + (8 * (n / 9) + n % 9)) := by rw [show (8 : Int32) = nI 8 from rfl, show (48 : Int32) = nI 48 from rfl, nI_mul, nI_add, nI_add, Nat.add_assoc]
        have e3 : nI v - 48 = nI (v - 48) := nI_sub (b := 48) v1
        simp only [e1, e2, e3, nI_cl (show 8 * (n / 9) + n % 9 < 2147483648 by omega), nI_cl (show 48 + (8 * (n / 9) + n % 9) < 2147483648 by omega)]
        rw [pgd_pos (pin_nI (by omega) (by omega)), pgd_pos (pin_nI (by omega) (by omega))]
        rcases ih (n + 1) k (k' + 1) (upd fg (8 * (n / 9) + n % 9) (nI (v - 48))) (upd md (48 + (8 * (n / 9) + n % 9)) (nI (v - 48))) (by omega) (by omega) (by omega) (by omega) (fun a ha hp => by
          by_cases ea : a = 8 * (n / 9) + n % 9
          · subst ea
            rw [upd_s, upd_s]
            exact ⟨rfl, v - 48, by omega, rfl⟩
          · rw [upd_n ea, upd_n (by omega)]
            exact hR a ha (by omega)) with ⟨f, fg', md', q1, q2, q3, q4⟩ | ⟨fg', md', q1, q2, q3, q4⟩
        · exact Or.inl ⟨f, fg', md', q1, q2, q3, fun j hj => (q4 j hj).trans (upd_n (by omega))⟩
        · exact Or.inr ⟨fg', md', q1, q2, q3, fun j hj => (q4 j hj).trans (upd_n (by omega))⟩
      · rw [pbr_neg cd, pbr_neg cd]
        exact Or.inl ⟨i, fg, md, by omega, rfl, rfl, fun _ _ => rfl⟩
/-- the model's draft becomes its ocean -/
theorem ocean_copy (tx : A32) (ty : Int32) (md : A32) : ∃ md', (f_X12_ocean_186 tx FU 0 ty md = pcl (f_X12_sea md') (fun r => some (r, 0, md'))) ∧ ∀ c, c < 48 → md' c = md (48 + c) := by
  have h := loop_up (fun k i (s : A32) => f_X12_ocean_186 tx k i ty s) (fun i s => upd s i (s (48 + i))) (fun s => pcl (f_X12_sea s) (fun r => some (r, (0 : Int32), s))) (fun i s => (∀ c, c < i → s c = md (48 + c)) ∧ ∀ j, 48 ≤ j → s j = md j) 48 (by omega) (fun k s _ => by
      show f_X12_ocean_186 tx (k + 1) (nI 48) ty s = _
      rw [f_X12_ocean_186, pbr_pos (show (48 : Int32) ≤ nI 48 by decide)]) (fun k i s hi hI => by
      refine ⟨?_, fun c hc => ?_, fun j hj => ?_⟩
      · show f_X12_ocean_186 tx (k + 1) (nI i) ty s = f_X12_ocean_186 tx k (nI (i + 1)) ty _
        have e : (48 : Int32) + nI i = nI (48 + i) := nI_add 48 i
        rw [f_X12_ocean_186, pbr_neg (show ¬ (48 : Int32) ≤ nI i from nI_ge (b := 48) hi (by omega))]
        simp only [e, plt_eq, nI_1, nI_cl (show i < 2147483648 by omega), nI_cl (show 48 + i < 2147483648 by omega)]
        rw [pgd_pos (pin_nI (by omega) (by omega)), pgd_pos (pin_nI (by omega) (by omega))]
      · by_cases ec : c = i
        · subst ec; rw [upd_s]; exact hI.2 _ (by omega)
        · rw [upd_n ec]; exact hI.1 c (by omega)
      · rw [upd_n (by omega)]; exact hI.2 j hj) md ⟨fun c hc => absurd hc (by omega), fun _ _ => rfl⟩
  exact ⟨_, h.1, h.2.1⟩
theorem op_ocean {bt tx : A32} {ln ty : Int32} (h : RT bt ln tx ty) {dp md fg : A32} (hd : RDp dp md) : ∃ r ln' fg' dp' ty' md', f_X11_ocean ln bt fg dp = some (r, ln', fg', dp') ∧ f_X12_ocean ty tx md = some (r, ty', md') ∧ RT bt ln' tx ty' ∧ RDp dp' md' := by
  obtain ⟨t, t1, rfl, rfl, ht⟩ := h
  unfold f_X11_ocean f_X4_become f_X4_read f_X12_ocean
  rcases ocean_loop t1 ht t 0 0 FU FU fg md (by omega) (by omega) (by have := FU_big; omega) (by have := FU_big; omega) (fun c hc hp => absurd hp (by omega)) with ⟨f, fg', md', q1, q2, q3, q4⟩ | ⟨fg', md', q1, q2, q3, q4⟩
  · have hne : ¬ nI f = -1 := fun q => by
      have := nI_pos' (n := f) (by omega)
      rw [q] at this
      exact absurd this (by decide)
    rw [show (0 : Int32) = nI 0 from rfl, q2, pcl_some, q3]
    dsimp only
    rw [pbr_neg hne, pcl_some]
    dsimp only
    rw [pbr_neg hne]
    exact ⟨_, _, _, _, _, _, rfl, rfl, ⟨t, t1, rfl, rfl, ht⟩, fun c hc => by rw [q4 c hc]; exact hd c hc⟩
  · obtain ⟨md2, q5, q6⟩ := ocean_copy tx (nI t) md'
    have hD : RDp (va_cpy fg' dp (0 : Int32).toNatClampNeg (0 : Int32).toNatClampNeg (48 : Int32).toNatClampNeg) md2 := fun c hc => by
      have e : va_cpy fg' dp (0 : Int32).toNatClampNeg (0 : Int32).toNatClampNeg (48 : Int32).toNatClampNeg c = fg' c := by
        rw [show (0 : Int32).toNatClampNeg = 0 by decide, show (48 : Int32).toNatClampNeg = 48 by decide, pk_cpy_in (by omega) (by omega), Nat.sub_zero, Nat.zero_add]
      rw [e, q6 c hc]
      exact q3 c hc (by omega)
    rw [show f_X4_read_4 (nI t) bt FU 0 0 fg = f_X4_read_4 (nI t) bt FU (nI 0) (nI 0) fg from rfl, q1, pcl_some, show f_X12_ocean_7 tx FU 0 (-9) 0 (nI t) md = f_X12_ocean_7 tx FU (nI 0) (-9) (nI 0) (nI t) md from rfl, q2, q5]
    dsimp only
    rw [pbr_pos rfl, plt_eq, pcl_some]
    dsimp only
    rw [pbr_pos rfl]
    unfold f_X9_empty
    rw [pcl_some, sea_same hD, mSea_eq, pcl_some, pcl_some]
    exact ⟨_, _, _, _, _, _, rfl, rfl, ⟨0, by omega, rfl, rfl, fun j hj => absurd hj (by omega)⟩, hD⟩
