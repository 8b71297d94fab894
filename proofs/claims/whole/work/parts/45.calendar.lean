/-! ===== calendar(): the text is read ===== -/
theorem byte_val : ∀ b : Nat, b < 256 → (nI b).toInt8.toInt32 &&& 255 = nI b := sc_k8
theorem byte_dig' : ∀ b : Nat, b < 256 → 48 ≤ b → b ≤ 57 → (nI b).toInt8.toInt32 = nI b := by decide +kernel
/-- the byte at a place, as a number -/
def bV (tx : A32) (j : Nat) : Nat := (tx j &&& 255).toNatClampNeg
def isD (tx : A32) (j : Nat) : Prop := 48 ≤ bV tx j ∧ bV tx j ≤ 57
theorem bV_spec {tx : A32} {j : Nat} (h : ∃ b : Nat, b < 256 ∧ tx j = (nI b).toInt8.toInt32) : tx j &&& 255 = nI (bV tx j) ∧ bV tx j < 256 ∧ (isD tx j → tx j = nI (bV tx j)) := by
  obtain ⟨b, b1, b2⟩ := h
  have e : tx j &&& 255 = nI b := by rw [b2]; exact byte_val b b1
  have e2 : bV tx j = b := by unfold bV; rw [e, nI_cl (by omega)]
  refine ⟨by rw [e2]; exact e, by rw [e2]; exact b1, fun q => ?_⟩
  unfold isD at q
  rw [e2] at q ⊢
  rw [b2]
  exact byte_dig' b b1 q.1 q.2
theorem dig_iff {b : Nat} (h : b < 256) : ((48 : Int32) ≤ nI b ∧ nI b ≤ 57) ↔ (48 ≤ b ∧ b ≤ 57) := by
  constructor
  · rintro ⟨q1, q2⟩
    exact ⟨(nI_le_iff (a := 48) (by omega) (by omega)).mp q1, (nI_le_iff (b := 57) (by omega) (by omega)).mp q2⟩
  · rintro ⟨q1, q2⟩
    exact in_span (a := 48) (b := 57) (by omega) q1 q2
section CAL
variable {bt tx : A32} {t : Nat}
/-- a run of figures from i ends at e -/
def runE (tx : A32) (t i e : Nat) : Prop := i ≤ e ∧ e ≤ t ∧ (∀ j, i ≤ j → j < e → isD tx j) ∧ (e = t ∨ ¬ isD tx e)
theorem figEnd (ht : t ≤ 400) (hb : ∀ j, j < t → bt j = tx j ∧ ∃ b : Nat, b < 256 ∧ tx j = (nI b).toInt8.toInt32) (x : Int32) : ∀ (d i k : Nat), i + d = t → d < k → ∃ e, runE tx t i e ∧ f_X9_figuresEnd_2 (nI t) bt x k (nI i) = some (nI e)
  | 0, i, k, hi, hk => by
    obtain ⟨k, rfl⟩ : ∃ q, k = q + 1 := ⟨k - 1, by omega⟩
    have e : i = t := by omega
    subst e
    refine ⟨i, ⟨Nat.le_refl _, Nat.le_refl _, fun j h1 h2 => absurd h2 (by omega), Or.inl rfl⟩, ?_⟩
    rw [f_X9_figuresEnd_2, pbr_pos (nI_le (Nat.le_refl _) (by omega))]
  | d + 1, i, k, hi, hk => by
    obtain ⟨k, rfl⟩ : ∃ q, k = q + 1 := ⟨k - 1, by omega⟩
    have hit : i < t := by omega
    obtain ⟨s1, s2, s3⟩ := bV_spec (hb i hit).2
    rw [f_X9_figuresEnd_2, pbr_neg (nI_ge hit (by omega)), isFigure_in hit ht, pcl_some, pbr_bI, (hb i hit).1, s1]
    by_cases c : isD tx i
    · rw [pbr_pos ((dig_iff s2).mpr c), plt_eq, nI_1]
      obtain ⟨e, ⟨r1, r2, r3, r4⟩, r5⟩ := figEnd ht hb x d (i + 1) k (by omega) (by omega)
      refine ⟨e, ⟨by omega, r2, fun j h1 h2 => ?_, r4⟩, r5⟩
      by_cases ej : j = i
      · subst ej; exact c
      · exact r3 j (by omega) h2
    · rw [pbr_neg (fun q => c ((dig_iff s2).mp q))]
      exact ⟨i, ⟨Nat.le_refl _, by omega, fun j h1 h2 => absurd h2 (by omega), Or.inr c⟩, rfl⟩
/-- the model's loop over a run of figures -/
theorem mRun (ht : t ≤ 400) (hb : ∀ j, j < t → ∃ b : Nat, b < 256 ∧ tx j = (nI b).toInt8.toInt32) (r10 : Int32 → Int32 → Int32 → Int32 → Int32 → A32 → A32 → Option (Int32 × Int32 × A32 × A32)) (x2 x3 x4 x6 : Int32) (mm yy : A32) {c : Nat} (hc : 48 ≤ c ∧ c ≤ 57) {e : Nat} : ∀ (d p k : Nat) (w : Int32), p + d = e → d < k → e ≤ t → (∀ j, p ≤ j → j < e → isD tx j) → (e = t ∨ ¬ isD tx e) → ∃ v, f_X12_calendar_68 r10 tx k (nI p) x2 x3 x4 (nI c) x6 w (nI t) mm yy = f_X12_calendar_135 r10 tx (nI e) x2 x3 x4 (nI c) x6 v (nI t) mm yy ∧ (d = 0 → v = w) ∧ (d = 1 → w ≤ 99 → v = 10 * w + nI (bV tx p) - 48)
  | 0, p, k, w, hp, hk, he, hr, hx => by
    obtain ⟨k, rfl⟩ : ∃ q, k = q + 1 := ⟨k - 1, by omega⟩
    have e1 : p = e := by omega
    subst e1
    refine ⟨w, ?_, fun _ => rfl, fun q => absurd q (by omega)⟩
    rw [f_X12_calendar_68, mDigit_eq, pcl_some, pbr_bI, pbr_pos ((dig_iff (by omega)).mpr hc)]
    by_cases c1 : p = t
    · subst c1
      rw [pbr_pos (nI_le (Nat.le_refl _) (by omega))]
    · have hpt : p < t := by omega
      obtain ⟨s1, s2, s3⟩ := bV_spec (hb p hpt)
      have hnd : ¬ isD tx p := hx.elim (fun q => absurd q c1) id
      rw [pbr_neg (nI_ge hpt (by omega)), pgd_pos (pin_nI (by omega) (by omega)), nI_cl (by omega), s1, mDigit_eq, pcl_some, pbr_bI, pbr_neg (fun q => hnd ((dig_iff s2).mp q))]
  | d + 1, p, k, w, hp, hk, he, hr, hx => by
    obtain ⟨k, rfl⟩ : ∃ q, k = q + 1 := ⟨k - 1, by omega⟩
    have hpt : p < t := by omega
    obtain ⟨s1, s2, s3⟩ := bV_spec (hb p hpt)
    have hd := hr p (Nat.le_refl _) (by omega)
    have ih := mRun ht hb r10 x2 x3 x4 x6 mm yy hc (e := e) d (p + 1) k
    rw [f_X12_calendar_68, mDigit_eq, pcl_some, pbr_bI, pbr_pos ((dig_iff (by omega)).mpr hc), pbr_neg (nI_ge hpt (by omega)), pgd_pos (pin_nI (by omega) (by omega)), nI_cl (by omega), s1, mDigit_eq, pcl_some, pbr_bI, pbr_pos ((dig_iff s2).mpr hd), s3 hd]
    simp only [plt_eq, nI_1]
    by_cases cw : w ≤ 99
    · rw [pbr_pos cw]
      obtain ⟨v, v1, v2, v3⟩ := ih (10 * w + nI (bV tx p) - 48) (by omega) (by omega) he (fun j h1 h2 => hr j (by omega) h2) hx
      exact ⟨v, v1, fun q => absurd q (by omega), fun q _ => v2 (by omega)⟩
    · rw [pbr_neg cw]
      obtain ⟨v, v1, v2, v3⟩ := ih w (by omega) (by omega) he (fun j h1 h2 => hr j (by omega) h2) hx
      exact ⟨v, v1, fun q => absurd q (by omega), fun q h9 => absurd h9 cw⟩
/-- what both have read: whole years, and the months of the open one -/
def CaR (n m : Nat) (mo : A32) (lg : G32) (mm : A32) : Prop := n ≤ 8 ∧ m ≤ 13 ∧ (n = 8 → m = 0) ∧ (∀ y, y < n → ∃ k : Nat, 12 ≤ k ∧ k ≤ 13 ∧ mo y = nI k ∧ mm (112 + 14 * y) = nI k ∧ ∀ a, a < k → ∃ v : Nat, 29 ≤ v ∧ v ≤ 30 ∧ lg y a = nI v ∧ mm (112 + 14 * y + 1 + a) = nI v) ∧ ∀ a, a < m → ∃ v : Nat, 29 ≤ v ∧ v ≤ 30 ∧ lg n a = nI v ∧ mm (112 + 14 * n + 1 + a) = nI v
theorem nne9 {f : Nat} (h : f ≤ 400) : ¬ nI f = -9 := fun q => by
  have := nI_pos' (n := f) (by omega)
  rw [q] at this
  exact absurd this (by decide)
theorem nne1 {f : Nat} (h : f ≤ 400) : ¬ nI f = -1 := fun q => by
  have := nI_pos' (n := f) (by omega)
  rw [q] at this
  exact absurd this (by decide)
theorem cal_bad (tx : A32) (k : Nat) {f : Nat} (x1 x3 x4 ty : Int32) (mm yy : A32) (hf : f ≤ 400) : f_X12_calendar_10 tx (k + 1) x1 (nI f) x3 x4 ty mm yy = some (-10 - nI f, ty, mm, yy) := by
  rw [f_X12_calendar_10, pbr_neg (nne9 hf)]
  unfold f_X12_calendar_288 f_X12_calendar_306 f_X12_calendar_307
  rw [pbr_neg (nne9 hf), pbr_neg (nne9 hf)]
/-- the two readings side by side -/
def CalOut (bt tx : A32) (t : Nat) (A : Option (Int32 × Int32 × A32 × G32)) (B : Option (Int32 × Int32 × A32 × A32)) (mm yy : A32) : Prop :=
  (∃ f dy mo lg mm', f ≤ 400 ∧ A = some (nI f, dy, mo, lg) ∧ B = some (-10 - nI f, nI t, mm', yy) ∧ ∀ j, j < 112 → mm' j = mm j) ∨
  (∃ n mo lg mm', A = some (-1, nI n, mo, lg) ∧ B = f_X12_calendar_307 tx (nI n) (-9) (nI t) mm' yy ∧ CaR n 0 mo lg mm' ∧ ∀ j, j < 112 → mm' j = mm j)
theorem CalOut.keep {A : Option (Int32 × Int32 × A32 × G32)} {B : Option (Int32 × Int32 × A32 × A32)} {mm mm1 yy : A32} (h : CalOut bt tx t A B mm1 yy) (hm : ∀ j, j < 112 → mm1 j = mm j) : CalOut bt tx t A B mm yy := by
  rcases h with ⟨f, dy, mo, lg, mm', q1, q2, q3, q4⟩ | ⟨n, mo, lg, mm', q1, q2, q3, q4⟩
  · exact Or.inl ⟨f, dy, mo, lg, mm', q1, q2, q3, fun j hj => (q4 j hj).trans (hm j hj)⟩
  · exact Or.inr ⟨n, mo, lg, mm', q1, q2, q3, fun j hj => (q4 j hj).trans (hm j hj)⟩
theorem takes_no {m n : Nat} {lg : G32} : f_X1_takesMonth (nI m) (-9) (nI n) lg = some (0, lg) := by
  unfold f_X1_takesMonth
  by_cases c1 : (8 : Int32) ≤ nI n
  · rw [pbr_pos c1]
  · rw [pbr_neg c1]
    by_cases c2 : (13 : Int32) ≤ nI m
    · rw [pbr_pos c2]
    · rw [pbr_neg c2, pbr_pos rfl]
theorem cal_loop (ht : t ≤ 400) (hb : ∀ j, j < t → bt j = tx j ∧ ∃ b : Nat, b < 256 ∧ tx j = (nI b).toInt8.toInt32) (yy : A32) : ∀ (D d i n m k k' : Nat) (mo : A32) (lg : G32) (mm : A32), d ≤ D → i + d = t → d < k → d + 1 < k' → CaR n m mo lg mm → CalOut bt tx t (f_X1_become_9 (nI t) bt k (nI m) (nI i) (nI n) mo lg) (f_X12_calendar_10 tx k' (nI i) (-9) (nI n) (nI m) (nI t) mm yy) mm yy := by
  intro D
  induction D with
  | zero =>
    intro d i n m k k' mo lg mm hd hi hk hk' hR
    have e : i = t := by omega
    subst e
    obtain ⟨k, rfl⟩ : ∃ q, k = q + 1 := ⟨k - 1, by omega⟩
    obtain ⟨k', rfl⟩ : ∃ q, k' = q + 1 := ⟨k' - 1, by omega⟩
    rw [f_X1_become_9, f_X12_calendar_10, pbr_pos (nI_le (Nat.le_refl _) (by omega)), pbr_pos rfl, pbr_pos (nI_le (Nat.le_refl _) (by omega))]
    unfold f_X12_calendar_288 f_X12_calendar_306
    rw [pbr_pos rfl]
    by_cases c : m = 0
    · subst c
      rw [pbr_pos (show nI 0 ≤ 0 by decide), pbr_pos (show nI 0 ≤ 0 by decide)]
      exact Or.inr ⟨n, mo, lg, mm, rfl, rfl, hR, fun _ _ => rfl⟩
    · have hm := hR.2.1
      rw [pbr_neg (nI_nle (by omega) (by omega)), pbr_neg (nI_nle (by omega) (by omega))]
      refine Or.inl ⟨i, _, _, _, mm, ht, rfl, ?_, fun _ _ => rfl⟩
      unfold f_X12_calendar_307
      rw [pbr_neg (nne9 ht)]
  | succ D ih =>
    intro d i n m k k' mo lg mm hd hi hk hk' hR
    by_cases hd0 : d ≤ D
    · exact ih d i n m k k' mo lg mm hd0 hi hk hk' hR
    have hit : i < t := by omega
    obtain ⟨k, rfl⟩ : ∃ q, k = q + 1 := ⟨k - 1, by omega⟩
    obtain ⟨k', rfl⟩ : ∃ q, k' = q + 2 := ⟨k' - 2, by omega⟩
    obtain ⟨hn, hm, hnm, hA, hB⟩ := hR
    obtain ⟨s1, s2, s3⟩ := bV_spec (hb i hit).2
    obtain ⟨e, ⟨r1, r2, r3, r4⟩, r5⟩ := figEnd ht hb (nI i) d i FU hi (by have := FU_big; omega)
    have hfe : f_X9_figuresEnd (nI i) (nI t) bt = some (nI e) := r5
    have hby : f_X9_byteAt (nI i) (nI t) bt = some (nI (bV tx i)) := by rw [byteAt_in hit ht, (hb i hit).1, s1]
    have bad : ∀ (x1 x3 x4 : Int32), f_X12_calendar_10 tx (k' + 1) x1 (nI i) x3 x4 (nI t) mm yy = some (-10 - nI i, nI t, mm, yy) := fun x1 x3 x4 => cal_bad tx k' x1 x3 x4 (nI t) mm yy (by omega)
    have z0 : ∀ a b : Option (Int32 × Int32 × A32 × A32), pbr ((0 : Int32) = 0) a b = a := fun a b => pbr_pos rfl
    have z1 : ∀ a b : Option (Int32 × Int32 × A32 × A32), pbr ((1 : Int32) = 0) a b = b := fun a b => pbr_neg (by decide)
    have y0 : ∀ a b : Option (Int32 × Int32 × A32 × G32), pbr ((0 : Int32) = 0) a b = a := fun a b => pbr_pos rfl
    have y1 : ∀ a b : Option (Int32 × Int32 × A32 × G32), pbr ((1 : Int32) = 0) a b = b := fun a b => pbr_neg (by decide)
    rw [f_X1_become_9, f_X12_calendar_10, pbr_neg (nI_ge hit (by omega)), pbr_pos rfl, pbr_neg (nI_ge hit (by omega)), pgd_pos (pin_nI (by omega) (by omega)), hfe, pcl_some, plt_eq, hby, pcl_some, pcl_some, nI_cl (by omega), s1, plt_eq, plt_eq, nI_1, mDigit_eq, pcl_some, pbr_bI]
    by_cases cD : isD tx i
    · -- a run of figures
      have he : i + 1 ≤ e := by
        rcases Nat.lt_or_ge i e with q | q
        · exact q
        · have : e = i := by omega
          subst this
          exact absurd cD (r4.elim (fun q => absurd q (by omega)) id)
      have e1 : (if nI (i + 1) < nI e then nI e else nI (i + 1)) = nI e := by
        by_cases q : i + 1 = e
        · rw [← q, if_neg (nI_nlt (Nat.le_refl _) (by omega))]
        · rw [if_pos (nI_lt (by omega) (by omega))]
      rw [e1, pbr_neg (show ¬ nI (bV tx i) = 59 from fun q => by have := (nI_eq_iff (b := 59) (by omega) (by omega)).mp q; have := cD.2; omega), pbr_neg (show ¬ nI (bV tx i) = 32 from fun q => by have := (nI_eq_iff (b := 32) (by omega) (by omega)).mp q; have := cD.1; omega), pbr_neg (show ¬ nI (bV tx i) = 32 from fun q => by have := (nI_eq_iff (b := 32) (by omega) (by omega)).mp q; have := cD.1; omega), pbr_pos ((dig_iff s2).mpr cD), plt_eq]
      have w1 : nI (bV tx i) - 48 = nI (bV tx i - 48) := nI_sub (b := 48) cD.1
      rw [w1]
      obtain ⟨v, v1, v2, v3⟩ := mRun ht (fun j hj => (hb j hj).2) (f_X12_calendar_10 tx (k' + 1)) (-9) (nI n) (nI m) (nI i) mm yy cD (e := e) (e - (i + 1)) (i + 1) FU (nI (bV tx i - 48)) (by omega) (by have := FU_big; omega) r2 (fun j h1 h2 => r3 j (by omega) h2) r4
      rw [v1]
      have fail : ∀ z7 : Int32, f_X12_calendar_159 (f_X12_calendar_10 tx (k' + 1)) tx (nI e) (-9) (nI n) (nI m) (nI (bV tx i)) (nI i) z7 (nI t) mm yy = some (-10 - nI i, nI t, mm, yy) := fun z7 => by
        unfold f_X12_calendar_159 f_X12_calendar_160 f_X12_calendar_192 f_X12_calendar_221
        rw [mDigit_eq, pcl_some, pbr_bI, pbr_pos ((dig_iff s2).mpr cD), z0, z0, bad]
      by_cases c2 : e = i + 2
      · subst c2
        have hi1 : i + 1 < t := by omega
        obtain ⟨u1, u2, u3⟩ := bV_spec (hb (i + 1) hi1).2
        have cD1 := r3 (i + 1) (by omega) (by omega)
        have hv : v = nI (10 * (bV tx i - 48) + (bV tx (i + 1) - 48)) := by
          rw [v3 (by omega) ((nI_le_iff (b := 99) (by omega) (by omega)).mpr (by have := cD.2; omega)), show (10 : Int32) = nI 10 from rfl, nI_mul, nI_add]
          have := nI_sub (a := 10 * (bV tx i - 48) + bV tx (i + 1)) (b := 48) (by have := cD1.1; omega)
          rw [show (48 : Int32) = nI 48 from rfl, this]
          congr 1
          have := cD1.1
          omega
        have hV : 10 * (bV tx i - 48) + (bV tx (i + 1) - 48) < 100 := by have := cD.2; have := cD1.2; omega
        generalize hVe : 10 * (bV tx i - 48) + (bV tx (i + 1) - 48) = V at hv hV
        subst hv
        have hlen : f_X1_lengthAt (nI i) (nI (i + 2)) (nI t) bt = some (if V = 29 ∨ V = 30 then nI V else -9) := by
          unfold f_X1_lengthAt
          have q1 : nI (i + 2) - nI i = 2 := by rw [nI_sub (by omega), show i + 2 - i = 2 by omega]; rfl
          have q2 : f_X9_byteAt (nI (i + 1)) (nI t) bt = some (nI (bV tx (i + 1))) := by rw [byteAt_in hi1 ht, (hb (i + 1) hi1).1, u1]
          have q3 : 10 * nI (bV tx i - 48) + nI (bV tx (i + 1)) - 48 = nI V := by
            rw [show (10 : Int32) = nI 10 from rfl, nI_mul, nI_add, show (48 : Int32) = nI 48 from rfl, nI_sub (by have := cD1.1; omega), ← hVe]
            congr 1
            have := cD1.1
            omega
          rw [pbr_pos q1, isFigure_in hit ht, pcl_some, pbr_bI, (hb i hit).1, s1, pbr_pos ((dig_iff s2).mpr cD), hby, pcl_some, nI_1, q2, pcl_some, w1, q3, plt_eq]
          by_cases g1 : V = 29
          · rw [pbr_pos (show nI V = 29 by rw [g1]; rfl), if_pos (Or.inl g1)]
          · rw [pbr_neg (show ¬ nI V = 29 from fun q => g1 ((nI_eq_iff (b := 29) (by omega) (by omega)).mp q))]
            by_cases g2 : V = 30
            · rw [pbr_pos (show nI V = 30 by rw [g2]; rfl), if_pos (Or.inr g2)]
            · rw [pbr_neg (show ¬ nI V = 30 from fun q => g2 ((nI_eq_iff (b := 30) (by omega) (by omega)).mp q)), if_neg (fun q => q.elim g1 g2)]
        rw [hlen, pcl_some]
        have d2 : nI (i + 2) - nI i = 2 := by rw [nI_sub (by omega), show i + 2 - i = 2 by omega]; rfl
        unfold f_X12_calendar_135
        rw [in_eq, pcl_some, pbr_bI]
        by_cases g : V = 29 ∨ V = 30
        · rw [if_pos g, pbr_pos (show (29 : Int32) ≤ nI V ∧ nI V ≤ 30 from in_span (a := 29) (b := 30) (by omega) (by omega) (by omega)), pbr_pos d2]
          unfold f_X1_takesMonth f_X12_calendar_160 f_X12_calendar_192 f_X12_calendar_221
          rw [mDigit_eq, pcl_some, pbr_bI, pbr_pos ((dig_iff s2).mpr cD), z1, z1, pcl_some, pbr_bI, pbr_pos ((dig_iff s2).mpr cD)]
          simp only [plt_eq, nI_1]
          by_cases n8 : n = 8
          · subst n8
            rw [pbr_pos (show (8 : Int32) ≤ nI 8 by decide), pcl_some, y0, pbr_pos (show (8 : Int32) ≤ nI 8 by decide), pbr_T, bad]
            exact Or.inl ⟨i, _, _, _, mm, by omega, rfl, rfl, fun _ _ => rfl⟩
          rw [pbr_neg (show ¬ (8 : Int32) ≤ nI n from nI_ge (b := 8) (by omega) (by omega)), pbr_neg (show ¬ (8 : Int32) ≤ nI n from nI_ge (b := 8) (by omega) (by omega))]
          by_cases m13 : m = 13
          · subst m13
            rw [pbr_pos (show (13 : Int32) ≤ nI 13 by decide), pcl_some, y0, pbr_pos (show (13 : Int32) ≤ nI 13 by decide), pbr_T, bad]
            exact Or.inl ⟨i, _, _, _, mm, by omega, rfl, rfl, fun _ _ => rfl⟩
          have ix : (112 : Int32) + 14 * nI n + nI (m + 1) = nI (112 + 14 * n + (m + 1)) := by rw [show (112 : Int32) = nI 112 from rfl, show (14 : Int32) = nI 14 from rfl, nI_mul, nI_add, nI_add]
          rw [pbr_neg (show ¬ (13 : Int32) ≤ nI m from nI_ge (b := 13) (by omega) (by omega)), pbr_neg (show ¬ (13 : Int32) ≤ nI m from nI_ge (b := 13) (by omega) (by omega)), pbr_neg (show ¬ nI V = -9 from nne9 (by omega)), pgd_pos (pin_nI (by omega) (by omega)), pgd_pos (pin_nI (by omega) (by omega)), pcl_some, ix, pgd_pos (pin_nI (by omega) (by omega)), nI_cl (by omega), nI_cl (by omega), nI_cl (by omega)]
          dsimp only
          rw [y1]
          refine CalOut.keep (ih (t - (i + 2)) (i + 2) n (m + 1) k (k' + 1) mo (up2 lg n m (nI V)) (upd mm (112 + 14 * n + (m + 1)) (nI V)) (by omega) (by omega) (by omega) (by omega) ⟨hn, by omega, fun q => absurd q n8, fun y hy => ?_, fun a ha => ?_⟩) (fun j hj => upd_n (by omega))
          · obtain ⟨q, q1, q2, q3, q4, q5⟩ := hA y hy
            refine ⟨q, q1, q2, q3, (upd_n (by omega)).trans q4, fun a ha => ?_⟩
            obtain ⟨w, w1, w2, w3, w4⟩ := q5 a ha
            exact ⟨w, w1, w2, (up2_n (Or.inl (by omega))).trans w3, (upd_n (by omega)).trans w4⟩
          · by_cases ea : a = m
            · subst ea
              exact ⟨V, by omega, by omega, up2_s _ _ _ _, by rw [show 112 + 14 * n + 1 + a = 112 + 14 * n + (a + 1) by omega]; exact upd_s _ _ _⟩
            · obtain ⟨w, w1, w2, w3, w4⟩ := hB a (by omega)
              exact ⟨w, w1, w2, (up2_n (Or.inr ea)).trans w3, (upd_n (by omega)).trans w4⟩
        · rw [if_neg g, takes_no, pcl_some]
          dsimp only
          rw [y0, pbr_neg (show ¬ ((29 : Int32) ≤ nI V ∧ nI V ≤ 30) from fun q => g (by
            have h1 := (nI_le_iff (a := 29) (by omega) (by omega)).mp q.1
            have h2 := (nI_le_iff (b := 30) (by omega) (by omega)).mp q.2
            omega)), fail]
          exact Or.inl ⟨i, _, _, _, mm, by omega, rfl, rfl, fun _ _ => rfl⟩
      · have d2 : ¬ nI e - nI i = 2 := fun q => c2 (by
          rw [nI_sub (by omega)] at q
          have := (nI_eq_iff (b := 2) (by omega) (by omega)).mp q
          omega)
        have hlen : f_X1_lengthAt (nI i) (nI e) (nI t) bt = some (-9) := by
          unfold f_X1_lengthAt
          rw [pbr_neg d2]
        have hm135 : f_X12_calendar_135 (f_X12_calendar_10 tx (k' + 1)) tx (nI e) (-9) (nI n) (nI m) (nI (bV tx i)) (nI i) v (nI t) mm yy = some (-10 - nI i, nI t, mm, yy) := by
          unfold f_X12_calendar_135
          rw [in_eq, pcl_some, pbr_bI, fail, pbr_neg d2]
          by_cases g : (29 : Int32) ≤ v ∧ v ≤ 30
          · rw [pbr_pos g]
          · rw [pbr_neg g]
        rw [hlen, pcl_some, takes_no, pcl_some]
        dsimp only
        rw [y0, hm135]
        exact Or.inl ⟨i, _, _, _, mm, by omega, rfl, rfl, fun _ _ => rfl⟩
    · -- no figure
      have he : e = i := by
        rcases Nat.lt_or_ge i e with q | q
        · exact absurd (r3 i (Nat.le_refl _) q) cD
        · omega
      subst he
      have e1 : (if nI (e + 1) < nI e then nI e else nI (e + 1)) = nI (e + 1) := if_neg (nI_nlt (by omega) (by omega))
      rw [e1, pbr_neg (fun q => cD ((dig_iff s2).mp q))]
      have fail : ∀ z : Option (Int32 × Int32 × A32 × A32), f_X12_calendar_220 (f_X12_calendar_10 tx (k' + 1)) tx (nI (e + 1)) (-9) (nI n) (nI m) (nI (bV tx e)) (nI e) 0 (nI t) mm yy = some (-10 - nI e, nI t, mm, yy) := fun z => by
        unfold f_X12_calendar_220 f_X12_calendar_221
        rw [z0, bad]
      obtain ⟨K, hK⟩ : ∃ K, FU = K + 1 := ⟨FU - 1, by have := FU_big; omega⟩
      have h68 : f_X12_calendar_68 (f_X12_calendar_10 tx (k' + 1)) tx FU (nI (e + 1)) (-9) (nI n) (nI m) (nI (bV tx e)) (nI e) 0 (nI t) mm yy = pbr (nI (bV tx e) = 59) (pbr ((8 : Int32) ≤ nI n) (some (-10 - nI e, nI t, mm, yy)) (pbr (nI m < 12) (some (-10 - nI e, nI t, mm, yy)) (f_X12_calendar_221 (f_X12_calendar_10 tx (k' + 1)) tx (nI (e + 1)) (-9) (nI n) (nI m) (nI (bV tx e)) (nI e) 0 1 (nI t) mm yy))) (some (-10 - nI e, nI t, mm, yy)) := by
        rw [hK, f_X12_calendar_68, mDigit_eq, pcl_some, pbr_bI, pbr_neg (fun q => cD ((dig_iff s2).mp q))]
        unfold f_X12_calendar_135 f_X12_calendar_159 f_X12_calendar_160
        rw [in_eq, pcl_some, pbr_bI, pbr_neg (show ¬ ((29 : Int32) ≤ 0 ∧ (0 : Int32) ≤ 30) by decide), mDigit_eq, pcl_some, pbr_bI, pbr_neg (fun q => cD ((dig_iff s2).mp q)), fail none]
      rw [h68]
      by_cases c59 : nI (bV tx e) = 59
      · rw [pbr_pos c59, pbr_pos c59, pbr_neg (show ¬ nI (bV tx e) = 32 by rw [c59]; decide)]
        unfold f_X1_endsYear
        simp only [plt_eq, nI_1]
        by_cases n8 : n = 8
        · subst n8
          rw [pbr_pos (show (8 : Int32) ≤ nI 8 by decide), pcl_some, pbr_pos (show (8 : Int32) ≤ nI 8 by decide)]
          dsimp only
          rw [y0]
          exact Or.inl ⟨e, _, _, _, mm, by omega, rfl, rfl, fun _ _ => rfl⟩
        rw [pbr_neg (show ¬ (8 : Int32) ≤ nI n from nI_ge (b := 8) (by omega) (by omega)), pbr_neg (show ¬ (8 : Int32) ≤ nI n from nI_ge (b := 8) (by omega) (by omega))]
        by_cases m12 : m < 12
        · rw [pbr_neg (show ¬ (12 : Int32) ≤ nI m from nI_ge (b := 12) (by omega) (by omega)), pbr_pos (show nI m < 12 from nI_lt (b := 12) (by omega) (by omega)), pcl_some]
          dsimp only
          rw [y0]
          exact Or.inl ⟨e, _, _, _, mm, by omega, rfl, rfl, fun _ _ => rfl⟩
        · have ix : (112 : Int32) + 14 * nI n = nI (112 + 14 * n) := by rw [show (112 : Int32) = nI 112 from rfl, show (14 : Int32) = nI 14 from rfl, nI_mul, nI_add]
          rw [pbr_pos (show (12 : Int32) ≤ nI m from nI_le (a := 12) (by omega) (by omega)), pbr_neg (show ¬ nI m < 12 from nI_nlt (b := 12) (by omega) (by omega)), pgd_pos (pin_nI (by omega) (by omega)), pcl_some, nI_cl (by omega)]
          unfold f_X12_calendar_221
          rw [z1, mDigit_eq, pcl_some, pbr_bI, pbr_neg (fun q => cD ((dig_iff s2).mp q)), ix, pgd_pos (pin_nI (by omega) (by omega)), nI_cl (by omega)]
          dsimp only
          rw [y1, plt_eq, plt_eq, nI_1]
          refine CalOut.keep (ih (t - (e + 1)) (e + 1) (n + 1) 0 k (k' + 1) (upd mo n (nI m)) lg (upd mm (112 + 14 * n) (nI m)) (by omega) (by omega) (by omega) (by omega) ⟨by omega, by omega, fun _ => rfl, fun y hy => ?_, fun a ha => absurd ha (by omega)⟩) (fun j hj => upd_n (by omega))
          by_cases ey : y = n
          · subst ey
            refine ⟨m, by omega, hm, upd_s _ _ _, upd_s _ _ _, fun a ha => ?_⟩
            obtain ⟨w, w1, w2, w3, w4⟩ := hB a ha
            exact ⟨w, w1, w2, w3, (upd_n (by omega)).trans w4⟩
          · obtain ⟨q, q1, q2, q3, q4, q5⟩ := hA y (by omega)
            refine ⟨q, q1, q2, (upd_n ey).trans q3, (upd_n (by omega)).trans q4, fun a ha => ?_⟩
            obtain ⟨w, w1, w2, w3, w4⟩ := q5 a ha
            exact ⟨w, w1, w2, w3, (upd_n (by omega)).trans w4⟩
      · rw [pbr_neg c59, pbr_neg c59]
        by_cases c32 : nI (bV tx e) = 32
        · rw [pbr_pos c32, pbr_pos c32]
          exact ih (t - (e + 1)) (e + 1) n m k (k' + 1) mo lg mm (by omega) (by omega) (by omega) (by omega) ⟨hn, hm, hnm, hA, hB⟩
        · have hlen : f_X1_lengthAt (nI e) (nI (e + 1)) (nI t) bt = some (-9) := by
            unfold f_X1_lengthAt
            rw [pbr_neg (show ¬ nI (e + 1) - nI e = 2 by rw [nI_sub (by omega), show e + 1 - e = 1 by omega]; decide)]
          rw [pbr_neg c32, pbr_neg c32, hlen, pcl_some, takes_no, pcl_some]
          dsimp only
          rw [y0]
          exact Or.inl ⟨e, _, _, _, mm, by omega, rfl, rfl, fun _ _ => rfl⟩
end CAL
theorem cal_copy (tx : A32) (n : Nat) (ty : Int32) (mm yy : A32) : ∃ mm', f_X12_calendar_329 tx FU (nI n) 0 ty mm yy = some (nI n, 0, mm', yy) ∧ ∀ c, c < 112 → mm' c = mm (112 + c) := by
  have h := loop_up (fun k i (s : A32) => f_X12_calendar_329 tx k (nI n) i ty s yy) (fun i s => upd s i (s (112 + i))) (fun s => some (nI n, (0 : Int32), s, yy)) (fun i s => (∀ c, c < i → s c = mm (112 + c)) ∧ ∀ j, 112 ≤ j → s j = mm j) 112 (by omega) (fun k s _ => by
      show f_X12_calendar_329 tx (k + 1) (nI n) (nI 112) ty s yy = _
      rw [f_X12_calendar_329, pbr_pos (show (112 : Int32) ≤ nI 112 by decide)]) (fun k i s hi hI => by
      refine ⟨?_, fun c hc => ?_, fun j hj => ?_⟩
      · show f_X12_calendar_329 tx (k + 1) (nI n) (nI i) ty s yy = f_X12_calendar_329 tx k (nI n) (nI (i + 1)) ty _ yy
        have e : (112 : Int32) + nI i = nI (112 + i) := nI_add 112 i
        rw [f_X12_calendar_329, pbr_neg (show ¬ (112 : Int32) ≤ nI i from nI_ge (b := 112) hi (by omega))]
        simp only [e, plt_eq, nI_1, nI_cl (show i < 2147483648 by omega), nI_cl (show 112 + i < 2147483648 by omega)]
        rw [pgd_pos (pin_nI (by omega) (by omega)), pgd_pos (pin_nI (by omega) (by omega))]
      · by_cases ec : c = i
        · subst ec; rw [upd_s]; exact hI.2 _ (by omega)
        · rw [upd_n ec]; exact hI.1 c (by omega)
      · rw [upd_n (by omega)]; exact hI.2 j hj) mm ⟨fun c hc => absurd hc (by omega), fun _ _ => rfl⟩
  exact ⟨_, h.1, h.2.1⟩
theorem op_calendar {bt tx : A32} {ln ty : Int32} (h : RT bt ln tx ty) (qc qd : Nat) (dy : Int32) (dmo : A32) (dlg : G32) (mm yy : A32) :
    (∃ r dy' dmo' dlg' mm', f_X11_calendar qc qd dy ln bt dmo dlg = some (r, qc, qd, dy', ln, dmo', dlg') ∧ f_X12_calendar ty tx mm yy = some (r, ty, mm', yy) ∧ ∀ j, j < 112 → mm' j = mm j) ∨
    (∃ r dy' ln' dmo' dlg' ty' mm' yy', f_X11_calendar qc qd dy ln bt dmo dlg = some (r, qd, qc, dy', ln', dmo', dlg') ∧ f_X12_calendar ty tx mm yy = some (r, ty', mm', yy') ∧ RT bt ln' tx ty' ∧ RCa dlg' dmo' dy' mm' yy') := by
  obtain ⟨t, t1, rfl, rfl, ht⟩ := h
  unfold f_X11_calendar f_X1_become f_X12_calendar
  rcases cal_loop t1 ht yy t t 0 0 0 FU FU dmo dlg mm (Nat.le_refl _) (by omega) (by have := FU_big; omega) (by have := FU_big; omega) ⟨by omega, by omega, fun q => absurd q (by omega), fun y hy => absurd hy (by omega), fun a ha => absurd ha (by omega)⟩ with ⟨f, dy', mo, lg, mm', q1, q2, q3, q4⟩ | ⟨n, mo, lg, mm', q1, q2, q3, q4⟩
  · refine Or.inl ⟨-10 - nI f, dy', mo, lg, mm', ?_, q3, q4⟩
    rw [show f_X1_become_9 (nI t) bt FU 0 0 0 dmo dlg = f_X1_become_9 (nI t) bt FU (nI 0) (nI 0) (nI 0) dmo dlg from rfl, q2, pcl_some]
    dsimp only
    rw [pbr_neg (nne1 q1)]
  · obtain ⟨mm2, q5, q6⟩ := cal_copy tx n (nI t) mm' (upd yy 0 (nI n))
    obtain ⟨c1, c2, c3, c4, c5⟩ := q3
    refine Or.inr ⟨nI n, nI n, 0, mo, lg, 0, mm2, upd yy 0 (nI n), ?_, ?_, ⟨0, by omega, rfl, rfl, fun j hj => absurd hj (by omega)⟩, n, c1, rfl, upd_s _ _ _, fun y hy => ?_⟩
    · rw [show f_X1_become_9 (nI t) bt FU 0 0 0 dmo dlg = f_X1_become_9 (nI t) bt FU (nI 0) (nI 0) (nI 0) dmo dlg from rfl, q1, pcl_some]
      dsimp only
      rw [pbr_pos rfl]
      rfl
    · rw [show f_X12_calendar_10 tx FU 0 (-9) 0 0 (nI t) mm yy = f_X12_calendar_10 tx FU (nI 0) (-9) (nI 0) (nI 0) (nI t) mm yy from rfl, q2]
      unfold f_X12_calendar_307
      rw [pbr_pos rfl, plt_eq, cl_0]
      exact q5
    · obtain ⟨k, k1, k2, k3, k4, k5⟩ := c4 y hy
      refine ⟨k, k1, k2, k3, by rw [q6 _ (by omega)]; exact k4, fun a ha => ?_⟩
      obtain ⟨v, v1, v2, v3, v4⟩ := k5 a ha
      exact ⟨v, v1, v2, v3, by rw [q6 _ (by omega), show 112 + (14 * y + 1 + a) = 112 + 14 * y + 1 + a by omega]; exact v4⟩
