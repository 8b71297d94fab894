/-! ===== counts ===== -/
theorem seaCells_eq (dp : A32) : f_X4_seaCells dp = some (fold (fun i a => if dp i ≤ 0 then a else a + 1) 48 0) := by
  refine loop_up0 (fun k i s => f_X4_seaCells_4 dp k s i) _ some 48 (by omega) (fun k s => ?_) (fun k i s h => ?_) 0
  · show f_X4_seaCells_4 dp (k + 1) s (nI 48) = _
    rw [f_X4_seaCells_4, pbr_pos (show (48 : Int32) ≤ nI 48 by decide)]
  · show f_X4_seaCells_4 dp (k + 1) s (nI i) = f_X4_seaCells_4 dp k _ (nI (i + 1))
    rw [f_X4_seaCells_4, pbr_neg (show ¬ (48 : Int32) ≤ nI i from fun q => absurd ((nI_le_iff (a := 48) (by omega) (by omega)).mp q) (by omega)), pgd_pos (pin_nI h (by omega))]
    simp only [nI_cl (show i < 2147483648 by omega), plt_eq, nI_1]
    by_cases hd : dp i ≤ 0
    · rw [pbr_pos hd, if_pos hd]
    · rw [pbr_neg hd, if_neg hd]
theorem mSea_eq (dp : A32) : f_X12_sea dp = some (fold (fun i a => if dp i ≤ 0 then a else a + 1) 48 0) := by
  refine loop_up0 (fun k i s => f_X12_sea_4 dp k s i) _ some 48 (by omega) (fun k s => ?_) (fun k i s h => ?_) 0
  · show f_X12_sea_4 dp (k + 1) s (nI 48) = _
    rw [f_X12_sea_4, pbr_pos (show (48 : Int32) ≤ nI 48 by decide)]
  · show f_X12_sea_4 dp (k + 1) s (nI i) = f_X12_sea_4 dp k _ (nI (i + 1))
    rw [f_X12_sea_4, pbr_neg (show ¬ (48 : Int32) ≤ nI i from fun q => absurd ((nI_le_iff (a := 48) (by omega) (by omega)).mp q) (by omega)), pgd_pos (pin_nI (by omega) (by omega))]
    simp only [nI_cl (show i < 2147483648 by omega), f_X12_sea_25, plt_eq, nI_1]
    by_cases hd : dp i ≤ 0
    · rw [pbr_pos hd, if_pos hd, show s + (0 : Int32) = s from Int32.add_zero s]
    · rw [pbr_neg hd, if_neg hd]
theorem sea_same {dp md : A32} (h : RDp dp md) : f_X4_seaCells dp = f_X12_sea md := by
  rw [seaCells_eq, mSea_eq, fold_congr (fun i hi s => by rw [(h i hi).1])]
theorem bitsIn_eq (x : Int32) : f_X12_bitsIn x = some (fold (fun i a => a + ((x >>> (nI i &&& 31)) &&& 1)) 8 0) := by
  refine loop_up0 (fun k i s => f_X12_bitsIn_4 x k s i) _ some 8 (by omega) (fun k s => ?_) (fun k i s h => ?_) 0
  · show f_X12_bitsIn_4 x (k + 1) s (nI 8) = _
    rw [f_X12_bitsIn_4, pbr_pos (show (8 : Int32) ≤ nI 8 by decide)]
  · show f_X12_bitsIn_4 x (k + 1) s (nI i) = f_X12_bitsIn_4 x k _ (nI (i + 1))
    rw [f_X12_bitsIn_4, pbr_neg (show ¬ (8 : Int32) ≤ nI i from fun q => absurd ((nI_le_iff (a := 8) (by omega) (by omega)).mp q) (by omega))]
    simp only [plt_eq, nI_1]
theorem bits64' : ∀ m : Nat, m < 64 → f_J6_bitCount_0f7a4 (nI m) = some (fold (fun i a => a + ((nI m >>> (nI i &&& 31)) &&& 1)) 8 0) := by decide +kernel
theorem bits64 {m : Nat} (h : m < 64) : f_J6_bitCount_0f7a4 (nI m) = f_X12_bitsIn (nI m) := by rw [bits64' m h, bitsIn_eq]
/-- how many bits -/
def pop6 (m : Nat) : Nat := m % 2 + m / 2 % 2 + m / 4 % 2 + m / 8 % 2 + m / 16 % 2 + m / 32 % 2
theorem pop64' : ∀ m : Nat, m < 64 → f_J6_bitCount_0f7a4 (nI m) = some (nI (pop6 m)) := by decide +kernel
theorem mpop {m : Nat} (h : m < 64) : f_X12_bitsIn (nI m) = some (nI (pop6 m)) := by rw [← bits64 h]; exact pop64' m h
theorem dugCount_same {z : Nat} {dg : Int32} {digs : A32} (h : RDg z dg digs) : f_X2_dugCount dg = f_X12_bitsIn (digs z) ∧ ∃ r, f_X2_dugCount dg = some r := by
  obtain ⟨d, d1, rfl, h2⟩ := h
  unfold f_X2_dugCount
  rw [h2, pop64' d d1, pcl_some, mpop d1]
  exact ⟨rfl, _, rfl⟩
theorem op_count {dp md : A32} {dg bc cy lc sc kc ln ty rings : Int32} {books years sheets knowns digs : A32} (h1 : RDp dp md) (h2 : RDg 0 dg digs) (h3 : bc = books 0) (h4 : cy = years 0) (h5 : lc = rings) (h6 : sc = sheets 0) (h7 : kc = knowns 0) (h8 : ln = ty) (x : Int32) :
    ∃ r, f_X11_count x dp dg bc cy lc sc kc ln = some r ∧ f_X12_count x ty rings md books years sheets knowns digs = some r := by
  subst h3 h4 h5 h6 h7 h8
  unfold f_X11_count f_X12_count
  simp only [cl_0]
  by_cases e0 : x = 0
  · rw [pbr_pos e0, pbr_pos e0, sea_same h1, mSea_eq]
    exact ⟨_, rfl, rfl⟩
  rw [pbr_neg e0, pbr_neg e0]
  by_cases e1 : x = 1
  · rw [pbr_pos e1, pbr_pos e1]; exact ⟨_, rfl, rfl⟩
  rw [pbr_neg e1, pbr_neg e1]
  by_cases e2 : x = 2
  · rw [pbr_pos e2, pbr_pos e2]; exact ⟨_, rfl, rfl⟩
  rw [pbr_neg e2, pbr_neg e2]
  by_cases e3 : x = 3
  · rw [pbr_pos e3, pbr_pos e3]; exact ⟨_, rfl, rfl⟩
  rw [pbr_neg e3, pbr_neg e3]
  by_cases e4 : x = 4
  · rw [pbr_pos e4, pbr_pos e4]; exact ⟨_, rfl, rfl⟩
  rw [pbr_neg e4, pbr_neg e4]
  by_cases e5 : x = 5
  · rw [pbr_pos e5, pbr_pos e5]; exact ⟨_, rfl, rfl⟩
  rw [pbr_neg e5, pbr_neg e5]
  by_cases e6 : x = 6
  · obtain ⟨q1, r, q2⟩ := dugCount_same h2
    rw [pbr_pos e6, pbr_pos e6, ← q1, q2]
    exact ⟨r, rfl, rfl⟩
  rw [pbr_neg e6, pbr_neg e6]
  by_cases e7 : x = 7
  · rw [pbr_pos e7]; exact ⟨_, rfl, rfl⟩
  rw [pbr_neg e7]
  exact ⟨_, rfl, rfl⟩
theorem op_trace {t u : Int64} (h : t = u) : ∃ r, f_X11_trace t = some r ∧ f_X12_trace u = some r := ⟨t, rfl, by rw [h]; rfl⟩
/-! ===== spans: the class asks them at once, the model one after another ===== -/
theorem span2 {x y lo hi : Int32} : (lo ≤ x ∧ x ≤ y ∧ y ≤ hi) ↔ ((lo ≤ x ∧ x ≤ hi) ∧ (x ≤ y ∧ y ≤ hi)) := by
  simp only [i_le]
  constructor
  · rintro ⟨a, b, c⟩; exact ⟨⟨a, by omega⟩, b, c⟩
  · rintro ⟨⟨a, -⟩, b, c⟩; exact ⟨a, b, c⟩
theorem op_tale (x1 x2 x3 x4 x5 : Int32) : ∃ r, f_X11_tale x1 x2 x3 x4 x5 = some r ∧ f_X12_tale x1 x2 x3 x4 x5 = some r := by
  unfold f_X11_tale f_X12_tale
  simp only [isYear_eq, within_eq, in_eq, isBit_eq, isSpan_eq, pcl_some, pbr_bI]
  by_cases c1 : 0 ≤ x1 ∧ x1 ≤ 9999
  · rw [pbr_pos c1, pbr_pos c1]
    by_cases c2 : 0 ≤ x2 ∧ x2 ≤ 50
    · rw [pbr_pos c2, pbr_pos c2]
      by_cases c3 : 1 ≤ x3 ∧ x3 ≤ x4 ∧ x4 ≤ 99
      · obtain ⟨d1, d2⟩ := span2.mp c3
        rw [pbr_pos d1, pbr_pos d2]
        by_cases c4 : x5 = 0 ∨ x5 = 1
        · rw [pbr_pos c4, pbr_pos c3, pbr_pos ((bit_span x5).mp c4)]
          by_cases c5 : x5 = 0
          · rw [pbr_pos c5]; exact ⟨_, rfl, rfl⟩
          · rw [pbr_neg c5]; exact ⟨_, rfl, rfl⟩
        · rw [pbr_neg c4, pbr_neg (fun q => c4 ((bit_span x5).mpr q))]; exact ⟨_, rfl, rfl⟩
      · have hL : ∀ k : Option Int32, pbr (x5 = 0 ∨ x5 = 1) (pbr (1 ≤ x3 ∧ x3 ≤ x4 ∧ x4 ≤ 99) k (some (-1000000))) (some (-1000000)) = some (-1000000) := fun k => by
          by_cases c4 : x5 = 0 ∨ x5 = 1
          · rw [pbr_pos c4, pbr_neg c3]
          · rw [pbr_neg c4]
        rw [hL]
        by_cases d1 : 1 ≤ x3 ∧ x3 ≤ 99
        · rw [pbr_pos d1, pbr_neg (fun q => c3 (span2.mpr ⟨d1, q⟩))]; exact ⟨_, rfl, rfl⟩
        · rw [pbr_neg d1]; exact ⟨_, rfl, rfl⟩
    · rw [pbr_neg c2, pbr_neg c2]; exact ⟨_, rfl, rfl⟩
  · rw [pbr_neg c1, pbr_neg c1]; exact ⟨_, rfl, rfl⟩
/-! ===== sheets, known slips, stories, chances, books come ===== -/
theorem op_sheet {ms od yg sheets marsh oldest youngest : A32} {ct : Int32} (h : RSh 0 ms od yg ct sheets marsh oldest youngest) (x1 x2 x3 : Int32) : ∃ r ct' ms' od' yg' sheets' marsh' oldest' youngest', f_X11_sheet x1 x2 x3 ct ms od yg = some (r, ct', ms', od', yg') ∧ f_X12_sheet x1 x2 x3 sheets marsh oldest youngest = some (r, sheets', marsh', oldest', youngest') ∧ RSh 0 ms' od' yg' ct' sheets' marsh' oldest' youngest' ∧ (∀ z, 0 < z → sheets' z = sheets z) ∧ (∀ j, 12 ≤ j → marsh' j = marsh j ∧ oldest' j = oldest j ∧ youngest' j = youngest j) := by
  have h' := h
  obtain ⟨n, n1, rfl, n2, hn⟩ := h
  unfold f_X11_sheet f_X12_sheet f_X6_add
  simp only [isMarsh_eq, in_eq, isSpan_eq, pcl_some, pbr_bI, plt_eq, cl_0, n2]
  by_cases c1 : 0 ≤ x1 ∧ x1 ≤ 5
  · rw [pbr_pos c1, pbr_pos c1]
    by_cases c2 : 0 ≤ x2 ∧ x2 ≤ x3 ∧ x3 ≤ 9999
    · obtain ⟨d1, d2⟩ := span2.mp c2
      rw [pbr_pos c2, pbr_pos d1, pbr_pos d2]
      by_cases e : n = 12
      · subst e
        rw [pbr_neg (show ¬ nI 12 < 12 by decide), pbr_pos (show nI 12 = 12 by decide)]
        exact ⟨_, _, _, _, _, _, _, _, _, rfl, rfl, h', fun _ _ => rfl, fun _ _ => ⟨rfl, rfl, rfl⟩⟩
      · obtain ⟨m, -, m2, rfl⟩ := of_span (a := 0) (b := 5) (by omega) (by omega) c1.1 c1.2
        obtain ⟨o, -, o2, rfl⟩ := of_span (a := 0) (b := 9999) (by omega) (by omega) d1.1 d1.2
        obtain ⟨y, y1, y2, rfl⟩ := of_span (a := o) (b := 9999) (by omega) (by omega) d2.1 d2.2
        rw [pbr_pos (show nI n < 12 from (nI_lt_iff (b := 12) (by omega) (by omega)).mpr (by omega)), pbr_neg (show ¬ nI n = 12 from fun q => e ((nI_eq_iff (b := 12) (by omega) (by omega)).mp q)), pgd_pos (pin_nI (by omega) (by omega)), pgd_pos (pin_nI (by omega) (by omega)), pcl_some]
        simp only [nI_cl (show n < 2147483648 by omega), nI_1]
        refine ⟨_, _, _, _, _, _, _, _, _, rfl, rfl, ⟨n + 1, by omega, rfl, upd_s _ _ _, fun i hi => ?_⟩, fun z hz => upd_n (by omega), fun j hj => ⟨upd_n (by omega), upd_n (by omega), upd_n (by omega)⟩⟩
        by_cases ei : i = n
        · subst ei
          exact ⟨m, o, y, m2, y1, y2, upd_s _ _ _, by rw [Nat.mul_zero, Nat.zero_add]; exact upd_s _ _ _, upd_s _ _ _, by rw [Nat.mul_zero, Nat.zero_add]; exact upd_s _ _ _, upd_s _ _ _, by rw [Nat.mul_zero, Nat.zero_add]; exact upd_s _ _ _⟩
        · obtain ⟨a, b, c, q1, q2, q3, q4, q5, q6, q7, q8, q9⟩ := hn i (by omega)
          rw [Nat.mul_zero, Nat.zero_add] at q5 q7 q9 ⊢
          exact ⟨a, b, c, q1, q2, q3, (upd_n ei).trans q4, (upd_n ei).trans q5, (upd_n ei).trans q6, (upd_n ei).trans q7, (upd_n ei).trans q8, (upd_n ei).trans q9⟩
    · rw [pbr_neg c2]
      by_cases d1 : 0 ≤ x2 ∧ x2 ≤ 9999
      · rw [pbr_pos d1, pbr_neg (fun q => c2 (span2.mpr ⟨d1, q⟩))]
        exact ⟨_, _, _, _, _, _, _, _, _, rfl, rfl, h', fun _ _ => rfl, fun _ _ => ⟨rfl, rfl, rfl⟩⟩
      · rw [pbr_neg d1]
        exact ⟨_, _, _, _, _, _, _, _, _, rfl, rfl, h', fun _ _ => rfl, fun _ _ => ⟨rfl, rfl, rfl⟩⟩
  · rw [pbr_neg c1, pbr_neg c1]
    exact ⟨_, _, _, _, _, _, _, _, _, rfl, rfl, h', fun _ _ => rfl, fun _ _ => ⟨rfl, rfl, rfl⟩⟩
theorem op_known {yr knowns known : A32} {ct : Int32} (h : RKn 0 yr ct knowns known) (x : Int32) : ∃ r ct' yr' knowns' known', f_X11_known x ct yr = some (r, ct', yr') ∧ f_X12_known x knowns known = some (r, knowns', known') ∧ RKn 0 yr' ct' knowns' known' ∧ (∀ z, 0 < z → knowns' z = knowns z) ∧ (∀ j, 16 ≤ j → known' j = known j) := by
  have h' := h
  obtain ⟨n, n1, rfl, n2, hn, hm⟩ := h
  unfold f_X11_known f_X12_known f_X12_known_39 f_X3_add
  simp only [isYear_eq, in_eq, pcl_some, pbr_bI, plt_eq, cl_0, n2]
  by_cases c1 : 0 ≤ x ∧ x ≤ 9999
  · rw [pbr_pos c1, pbr_pos c1]
    obtain ⟨y, -, y2, rfl⟩ := of_span (a := 0) (b := 9999) (by omega) (by omega) c1.1 c1.2
    have later : ∀ k : Nat, n = k + 1 → nI n - 1 = nI k := fun k e => by rw [e, show (1 : Int32) = nI 1 from rfl, nI_sub (by omega)]; rfl
    by_cases hok : n = 0 ∨ ∃ k, n = k + 1 ∧ yr k < nI y
    · -- it is later
      have e1 : f_X3_isLater (nI y) (nI n) yr = some 1 := by
        unfold f_X3_isLater
        rcases hok with rfl | ⟨k, rfl, hk⟩
        · rw [pbr_pos (show nI 0 = 0 from rfl)]
        · rw [pbr_neg (show ¬ nI (k + 1) = 0 from nI_ne0 (by omega) (by omega)), later k rfl, pgd_pos (pin_nI (by omega) (by omega)), nI_cl (by omega), pbr_neg (fun q => by rw [i_le] at q; rw [i_lt] at hk; omega)]
      rw [e1, pcl_some, pbr_neg (show ¬ (1 : Int32) = 0 by decide)]
      have e2 : ∀ a b : Option (Int32 × A32 × A32), (pbr (nI n ≤ 0) a (pgd (pin (nI n - 1) 48) (pbr (known (nI n - 1).toNatClampNeg < nI y) a b))) = a := fun a b => by
        rcases hok with rfl | ⟨k, rfl, hk⟩
        · rw [pbr_pos (show nI 0 ≤ 0 by decide)]
        · obtain ⟨v, v1, v2, v3⟩ := hn k (by omega)
          rw [Nat.mul_zero, Nat.zero_add] at v3
          rw [pbr_neg (nI_nle (by omega) (by omega)), later k rfl, pgd_pos (pin_nI (by omega) (by omega)), nI_cl (by omega), pbr_pos (by rw [v3, ← v2]; exact hk)]
      rw [e2]
      by_cases e : n = 16
      · subst e
        rw [pbr_neg (show ¬ nI 16 < 16 by decide), pbr_pos (show nI 16 = 16 by decide)]
        exact ⟨_, _, _, _, _, rfl, rfl, h', fun _ _ => rfl, fun _ _ => rfl⟩
      · rw [pbr_pos (show nI n < 16 from (nI_lt_iff (b := 16) (by omega) (by omega)).mpr (by omega)), pbr_neg (show ¬ nI n = 16 from fun q => e ((nI_eq_iff (b := 16) (by omega) (by omega)).mp q)), pgd_pos (pin_nI (by omega) (by omega)), pgd_pos (pin_nI (by omega) (by omega)), pcl_some]
        simp only [nI_cl (show n < 2147483648 by omega), nI_1, upd_s]
        refine ⟨_, _, _, _, _, rfl, rfl, ⟨n + 1, by omega, rfl, upd_s _ _ _, fun i hi => ?_, fun i hi => ?_⟩, fun z hz => upd_n (by omega), fun j hj => upd_n (by omega)⟩
        · by_cases ei : i = n
          · subst ei
            exact ⟨y, y2, upd_s _ _ _, by rw [Nat.mul_zero, Nat.zero_add]; exact upd_s _ _ _⟩
          · obtain ⟨v, v1, v2, v3⟩ := hn i (by omega)
            rw [Nat.mul_zero, Nat.zero_add] at v3 ⊢
            exact ⟨v, v1, (upd_n ei).trans v2, (upd_n ei).trans v3⟩
        · by_cases ei : i + 1 = n
          · rw [upd_n (show i ≠ n by omega), ei, upd_s]
            rcases hok with h0 | ⟨k, hk1, hk2⟩
            · omega
            · have : i = k := by omega
              subst this
              exact hk2
          · rw [upd_n (show i ≠ n by omega), upd_n ei]
            exact hm i (by omega)
    · have hpos : ∃ k, n = k + 1 := ⟨n - 1, by
        rcases Nat.eq_zero_or_pos n with e | e
        · exact absurd (Or.inl e) hok
        · omega⟩
      obtain ⟨k, rfl⟩ := hpos
      have hk : nI y ≤ yr k := by
        rw [i_le]
        have : ¬ yr k < nI y := fun q => hok (Or.inr ⟨k, rfl, q⟩)
        rw [i_lt] at this
        omega
      obtain ⟨v, v1, v2, v3⟩ := hn k (by omega)
      rw [Nat.mul_zero, Nat.zero_add] at v3
      have e1 : f_X3_isLater (nI y) (nI (k + 1)) yr = some 0 := by
        unfold f_X3_isLater
        rw [pbr_neg (show ¬ nI (k + 1) = 0 from nI_ne0 (by omega) (by omega)), later k rfl, pgd_pos (pin_nI (by omega) (by omega)), nI_cl (by omega), pbr_pos hk]
      rw [e1, pcl_some, pbr_pos rfl, pbr_neg (nI_nle (by omega) (by omega)), later k rfl, pgd_pos (pin_nI (by omega) (by omega)), nI_cl (by omega), pbr_neg (fun q => by rw [v3, ← v2, i_lt] at q; rw [i_le] at hk; omega)]
      exact ⟨_, _, _, _, _, rfl, rfl, h', fun _ _ => rfl, fun _ _ => rfl⟩
  · rw [pbr_neg c1, pbr_neg c1]
    exact ⟨_, _, _, _, _, rfl, rfl, h', fun _ _ => rfl, fun _ _ => rfl⟩
theorem op_story {wt weight : A64} (h : RWt 0 wt weight) (x v : Int32) : ∃ r wt' weight', f_X11_story x v wt = some (r, wt') ∧ f_X12_story x v weight = some (r, weight') ∧ RWt 0 wt' weight' ∧ ∀ j, 5 ≤ j → weight' j = weight j := by
  unfold f_X11_story f_X12_story
  simp only [isStory_eq, mStory_eq, within_eq, in_eq, pcl_some, pbr_bI, plt_eq]
  by_cases c1 : 0 ≤ x ∧ x ≤ 4
  · rw [pbr_pos c1, pbr_pos c1]
    obtain ⟨s, -, s2, rfl⟩ := of_span (a := 0) (b := 4) (by omega) (by omega) c1.1 c1.2
    by_cases c2 : 0 ≤ v ∧ v ≤ 99
    · obtain ⟨w, -, w2, rfl⟩ := of_span (a := 0) (b := 99) (by omega) (by omega) c2.1 c2.2
      obtain ⟨a, a1, a2, a3⟩ := h s (by omega)
      rw [Nat.mul_zero, Nat.zero_add] at a3
      rw [pbr_pos c2, pbr_pos c2, pgd_pos (pin_nI (by omega) (by omega)), pgd_pos (pin_nI (by omega) (by omega)), nI_cl (by omega), a2, a3, nI_l (by omega)]
      refine ⟨_, _, _, rfl, rfl, fun i hi => ?_, fun j hj => updL_n (by omega)⟩
      by_cases ei : i = s
      · subst ei
        exact ⟨w, by omega, updL_s _ _ _, by rw [Nat.mul_zero, Nat.zero_add]; exact updL_s _ _ _⟩
      · obtain ⟨b, b1, b2, b3⟩ := h i hi
        rw [Nat.mul_zero, Nat.zero_add] at b3 ⊢
        exact ⟨b, b1, (updL_n ei).trans b2, (updL_n ei).trans b3⟩
    · rw [pbr_neg c2, pbr_neg c2]
      exact ⟨_, _, _, rfl, rfl, h, fun _ _ => rfl⟩
  · rw [pbr_neg c1, pbr_neg c1]
    exact ⟨_, _, _, rfl, rfl, h, fun _ _ => rfl⟩
theorem op_chance {ch : G32} {chance : A32} (h : RCh ch chance) (x1 x2 x3 : Int32) : ∃ r ch' chance', f_X11_chance x1 x2 x3 ch = some (r, ch') ∧ f_X12_chance x1 x2 x3 chance = some (r, chance') ∧ RCh ch' chance' := by
  unfold f_X11_chance f_X12_chance
  simp only [isStory_eq, mStory_eq, isMarsh_eq, within_eq, in_eq, pcl_some, pbr_bI, plt_eq]
  by_cases c1 : 0 ≤ x1 ∧ x1 ≤ 4
  · rw [pbr_pos c1, pbr_pos c1]
    obtain ⟨s, -, s2, rfl⟩ := of_span (a := 0) (b := 4) (by omega) (by omega) c1.1 c1.2
    by_cases c2 : 0 ≤ x2 ∧ x2 ≤ 5
    · rw [pbr_pos c2, pbr_pos c2]
      obtain ⟨m, -, m2, rfl⟩ := of_span (a := 0) (b := 5) (by omega) (by omega) c2.1 c2.2
      by_cases c3 : 0 ≤ x3 ∧ x3 ≤ 10
      · obtain ⟨v, -, v2, rfl⟩ := of_span (a := 0) (b := 10) (by omega) (by omega) c3.1 c3.2
        obtain ⟨a, a1, a2, a3⟩ := h s m (by omega) (by omega)
        have e6 : (6 : Int32) * nI s + nI m = nI (6 * s + m) := by rw [show (6 : Int32) = nI 6 from rfl, nI_mul, nI_add]
        simp only [e6, nI_cl (show s < 2147483648 by omega), nI_cl (show m < 2147483648 by omega), nI_cl (show 6 * s + m < 2147483648 by omega), a2, a3]
        rw [pbr_pos c3, pbr_pos c3, pgd_pos (pin_nI (by omega) (by omega)), pgd_pos (pin_nI (by omega) (by omega)), pgd_pos (pin_nI (by omega) (by omega))]
        refine ⟨_, _, _, rfl, rfl, fun i j hi hj => ?_⟩
        by_cases e : i = s ∧ j = m
        · obtain ⟨rfl, rfl⟩ := e
          exact ⟨v, v2, up2_s _ _ _ _, upd_s _ _ _⟩
        · obtain ⟨b, b1, b2, b3⟩ := h i j hi hj
          exact ⟨b, b1, (up2_n (by omega)).trans b2, (upd_n (by omega)).trans b3⟩
      · rw [pbr_neg c3, pbr_neg c3]
        exact ⟨_, _, _, rfl, rfl, h⟩
    · rw [pbr_neg c2, pbr_neg c2]
      exact ⟨_, _, _, rfl, rfl, h⟩
  · rw [pbr_neg c1, pbr_neg c1]
    exact ⟨_, _, _, rfl, rfl, h⟩
theorem isSea_eq {dp : A32} (x : Int32) : f_X4_isSea x dp = some (bI ((0 ≤ x ∧ x ≤ 47) ∧ ¬ dp x.toNatClampNeg ≤ 0)) := by
  unfold f_X4_isSea
  simp only [isCell_eq, pcl_some, pbr_bI]
  by_cases c1 : 0 ≤ x ∧ x ≤ 47
  · rw [pbr_pos c1]
    obtain ⟨j, -, j2, rfl⟩ := of_span (a := 0) (b := 47) (by omega) (by omega) c1.1 c1.2
    rw [pgd_pos (pin_nI (by omega) (by omega))]
    by_cases c2 : dp (nI j).toNatClampNeg ≤ 0
    · rw [pbr_pos c2, bI_neg (fun q => q.2 c2)]
    · rw [pbr_neg c2, bI_pos ⟨c1, c2⟩]
  · rw [pbr_neg c1, bI_neg (fun q => c1 q.1)]
theorem mIsSea_eq {dp : A32} (x : Int32) : f_X12_isSea x dp = some (bI ((0 ≤ x ∧ x ≤ 47) ∧ ¬ dp x.toNatClampNeg ≤ 0)) := by
  unfold f_X12_isSea
  simp only [mCell_eq, pcl_some, pbr_bI]
  by_cases c1 : 0 ≤ x ∧ x ≤ 47
  · rw [pbr_pos c1]
    obtain ⟨j, -, j2, rfl⟩ := of_span (a := 0) (b := 47) (by omega) (by omega) c1.1 c1.2
    rw [pgd_pos (pin_nI (by omega) (by omega))]
    by_cases c2 : dp (nI j).toNatClampNeg ≤ 0
    · rw [pbr_pos c2, bI_neg (fun q => q.2 c2)]
    · rw [pbr_neg c2, bI_pos ⟨c1, c2⟩]
  · rw [pbr_neg c1, bI_neg (fun q => c1 q.1)]
/-- a cell of sea, on both sides -/
theorem sea_cases {dp md : A32} (h : RDp dp md) (x : Int32) : (f_X4_isSea x dp = some 0 ∧ f_X12_isSea x md = some 0) ∨ ∃ c d : Nat, c < 48 ∧ x = nI c ∧ 1 ≤ d ∧ d ≤ 9 ∧ dp c = nI d ∧ f_X4_isSea x dp = some 1 ∧ f_X12_isSea x md = some 1 := by
  by_cases c1 : 0 ≤ x ∧ x ≤ 47
  · obtain ⟨j, -, j2, rfl⟩ := of_span (a := 0) (b := 47) (by omega) (by omega) c1.1 c1.2
    obtain ⟨h1, d, d1, d2⟩ := h j (by omega)
    by_cases c2 : dp j ≤ 0
    · refine Or.inl ⟨by rw [isSea_eq, bI_neg (fun q => q.2 (by rw [nI_cl (by omega)]; exact c2))], by rw [mIsSea_eq, bI_neg (fun q => q.2 (by rw [nI_cl (by omega), ← h1]; exact c2))]⟩
    · refine Or.inr ⟨j, d, by omega, rfl, ?_, d1, d2, by rw [isSea_eq, bI_pos ⟨c1, by rw [nI_cl (by omega)]; exact c2⟩], by rw [mIsSea_eq, bI_pos ⟨c1, by rw [nI_cl (by omega), ← h1]; exact c2⟩]⟩
      rcases Nat.eq_zero_or_pos d with e | e
      · subst e
        exact absurd (by rw [d2]; decide) c2
      · exact e
  · exact Or.inl ⟨by rw [isSea_eq, bI_neg (fun q => c1 q.1)], by rw [mIsSea_eq, bI_neg (fun q => c1 q.1)]⟩
theorem op_book {dp md : A32} (hd : RDp dp md) {cl fr to lo hi books told : A32} {ct : Int32} (h : RBk 0 cl fr to lo hi ct books told) (x1 x2 x3 x4 x5 : Int32) : ∃ r ct' cl' fr' to' lo' hi' books' told', f_X11_book x1 x2 x3 x4 x5 dp ct cl fr to lo hi = some (r, ct', cl', fr', to', lo', hi') ∧ f_X12_book x1 x2 x3 x4 x5 md books told = some (r, books', told') ∧ RBk 0 cl' fr' to' lo' hi' ct' books' told' ∧ (∀ z, 0 < z → books' z = books z) ∧ (∀ j, 30 ≤ j → told' j = told j) := by
  have h' := h
  obtain ⟨n, n1, rfl, n2, hn⟩ := h
  unfold f_X11_book f_X12_book f_X0_add
  rcases sea_cases hd x1 with ⟨q1, q2⟩ | ⟨c, d, hc, rfl, -, -, -, q1, q2⟩
  · simp only [q1, q2, pcl_some]
    rw [pbr_pos trivial, pbr_pos trivial]
    exact ⟨_, _, _, _, _, _, _, _, _, rfl, rfl, h', fun _ _ => rfl, fun _ _ => rfl⟩
  simp only [q1, q2, in_eq, isSpan_eq, pcl_some, pbr_bI, plt_eq, cl_0, n2]
  rw [pbr_neg (show ¬ (1 : Int32) = 0 by decide), pbr_neg (show ¬ (1 : Int32) = 0 by decide)]
  by_cases c2 : -9999 ≤ x2 ∧ x2 ≤ x3 ∧ x3 ≤ 9999
  · obtain ⟨d1, d2⟩ := span2.mp c2
    rw [pbr_pos c2, pbr_pos d1, pbr_pos d2]
    by_cases c3 : 0 ≤ x4 ∧ x4 ≤ x5 ∧ x5 ≤ 999
    · obtain ⟨d3, d4⟩ := span2.mp c3
      rw [pbr_pos c3, pbr_pos d3, pbr_pos d4]
      by_cases e : n = 6
      · subst e
        rw [pbr_neg (show ¬ nI 6 < 6 by decide), pbr_pos (show nI 6 = 6 by decide)]
        exact ⟨_, _, _, _, _, _, _, _, _, rfl, rfl, h', fun _ _ => rfl, fun _ _ => rfl⟩
      · have e5 : (5 : Int32) * nI n = nI (5 * n) := by rw [show (5 : Int32) = nI 5 from rfl, nI_mul]
        have f1 : nI (5 * n) + 1 = nI (5 * n + 1) := nI_1 _
        have f2 : nI (5 * n) + 2 = nI (5 * n + 2) := nI_add _ 2
        have f3 : nI (5 * n) + 3 = nI (5 * n + 3) := nI_add _ 3
        have f4 : nI (5 * n) + 4 = nI (5 * n + 4) := nI_add _ 4
        simp only [e5, f1, f2, f3, f4, nI_cl (show n < 2147483648 by omega), nI_cl (show 5 * n < 2147483648 by omega), nI_cl (show 5 * n + 1 < 2147483648 by omega), nI_cl (show 5 * n + 2 < 2147483648 by omega), nI_cl (show 5 * n + 3 < 2147483648 by omega), nI_cl (show 5 * n + 4 < 2147483648 by omega), nI_1, upd_s]
        rw [pbr_pos (show nI n < 6 from (nI_lt_iff (b := 6) (by omega) (by omega)).mpr (by omega)), pbr_neg (show ¬ nI n = 6 from fun q => e ((nI_eq_iff (b := 6) (by omega) (by omega)).mp q)), pgd_pos (pin_nI (by omega) (by omega)), pgd_pos (pin_nI (by omega) (by omega)), pgd_pos (pin_nI (by omega) (by omega)), pgd_pos (pin_nI (by omega) (by omega)), pgd_pos (pin_nI (by omega) (by omega)), pgd_pos (pin_nI (by omega) (by omega)), pcl_some, show nI (n + 1) - 1 = nI n from nI_pred n]
        dsimp only
        refine ⟨_, _, _, _, _, _, _, _, _, rfl, rfl, ⟨n + 1, by omega, rfl, upd_s _ _ _, fun b hb => ?_⟩, fun z hz => upd_n (by omega), fun j hj => by rw [upd_n (by omega), upd_n (by omega), upd_n (by omega), upd_n (by omega), upd_n (by omega)]⟩
        by_cases eb : b = n
        · subst eb
          rw [Nat.mul_zero, Nat.zero_add, upd_s, upd_s, upd_s, upd_s, upd_s]
          refine ⟨⟨c, hc, rfl, ?_⟩, ?_, ?_, ?_, ?_, ?_, ?_⟩
          · rw [upd_n (by omega), upd_n (by omega), upd_n (by omega), upd_n (by omega), upd_s]
          · rw [upd_n (by omega), upd_n (by omega), upd_n (by omega), upd_s]
          · rw [upd_n (by omega), upd_n (by omega), upd_s]
          · rw [upd_n (by omega), upd_s]
          · rw [upd_s]
          · simp only [i_le] at c2
            exact ⟨by have := c2.1; rw [show (-9999 : Int32).toInt = -9999 by decide] at this; exact this, c2.2.1, by have := c2.2.2; rw [show (9999 : Int32).toInt = 9999 by decide] at this; exact this⟩
          · simp only [i_le] at c3
            exact ⟨by have := c3.1; rw [show (0 : Int32).toInt = 0 by decide] at this; exact this, c3.2.1, by have := c3.2.2; rw [show (999 : Int32).toInt = 999 by decide] at this; exact this⟩
        · have hq := hn b (by omega)
          rw [Nat.mul_zero, Nat.zero_add] at hq ⊢
          rw [upd_n eb, upd_n eb, upd_n eb, upd_n eb, upd_n eb]
          have k0 : ∀ j, j < 5 * n → upd (upd (upd (upd (upd told (5 * n) (nI c)) (5 * n + 1) x2) (5 * n + 2) x3) (5 * n + 3) x4) (5 * n + 4) x5 j = told j := fun j hj => by rw [upd_n (by omega), upd_n (by omega), upd_n (by omega), upd_n (by omega), upd_n (by omega)]
          rw [k0 _ (by omega), k0 _ (by omega), k0 _ (by omega), k0 _ (by omega), k0 _ (by omega)]
          exact hq
    · rw [pbr_neg c3]
      by_cases d3 : 0 ≤ x4 ∧ x4 ≤ 999
      · rw [pbr_pos d3, pbr_neg (fun q => c3 (span2.mpr ⟨d3, q⟩))]
        exact ⟨_, _, _, _, _, _, _, _, _, rfl, rfl, h', fun _ _ => rfl, fun _ _ => rfl⟩
      · rw [pbr_neg d3]
        exact ⟨_, _, _, _, _, _, _, _, _, rfl, rfl, h', fun _ _ => rfl, fun _ _ => rfl⟩
  · rw [pbr_neg c2]
    by_cases d1 : -9999 ≤ x2 ∧ x2 ≤ 9999
    · rw [pbr_pos d1, pbr_neg (fun q => c2 (span2.mpr ⟨d1, q⟩))]
      exact ⟨_, _, _, _, _, _, _, _, _, rfl, rfl, h', fun _ _ => rfl, fun _ _ => rfl⟩
    · rw [pbr_neg d1]
      exact ⟨_, _, _, _, _, _, _, _, _, rfl, rfl, h', fun _ _ => rfl, fun _ _ => rfl⟩
