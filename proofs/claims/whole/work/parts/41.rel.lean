/-! ===== how the two states stand to each other ===== -/
abbrev A32 : Type := Nat → Int32
abbrev A64 : Type := Nat → Int64
abbrev G32 : Type := Nat → Nat → Int32
/-- THE TEXT -/
def RT (bt : A32) (ln : Int32) (tx : A32) (ty : Int32) : Prop := ∃ t : Nat, t ≤ 400 ∧ ln = nI t ∧ ty = nI t ∧ ∀ j, j < t → bt j = tx j ∧ ∃ b : Nat, b < 256 ∧ tx j = (nI b).toInt8.toInt32
/-- depths of the 48 cells -/
def RDp (dp md : A32) : Prop := ∀ c, c < 48 → dp c = md c ∧ ∃ d : Nat, d ≤ 9 ∧ dp c = nI d
/-- the tunes -/
def RTu (pc fd yn : Int32) (tu : A32) : Prop := (∃ p : Nat, 1 ≤ p ∧ p ≤ 9 ∧ pc = nI p ∧ tu 0 = nI p) ∧ (∃ f : Nat, 1 ≤ f ∧ f ≤ 999 ∧ fd = nI f ∧ tu 1 = nI f) ∧ ∃ y : Nat, y ≤ 9999 ∧ yn = nI y ∧ tu 2 = nI y
/-- LIVING trees -/
def RLv (lr : A32) (lc fy : Int32) (ring : A32) (rings mfy : Int32) : Prop := (∃ n : Nat, n ≤ 60 ∧ lc = nI n ∧ rings = nI n ∧ ∀ j, j < n → lr j = ring j ∧ ∃ v : Nat, v ≤ 99 ∧ lr j = nI v) ∧ ∃ y : Nat, y ≤ 9999 ∧ fy = nI y ∧ mfy = nI y
/-- WOODS -/
def RWd (wr : G32) (wc en : A32) (wood woods mends : A32) : Prop := ∀ w, w < 4 → (∃ k : Nat, k ≤ 30 ∧ wc w = nI k ∧ woods w = nI k ∧ ∀ j, j < k → wr w j = wood (30 * w + j) ∧ ∃ v : Nat, v ≤ 99 ∧ wr w j = nI v) ∧ en w = mends w ∧ (en w = 0 ∨ en w = 1)
/-- BOOKS, in the model's slot z -/
def RBk (z : Nat) (cl fr to lo hi : A32) (ct : Int32) (books told : A32) : Prop := ∃ n : Nat, n ≤ 6 ∧ ct = nI n ∧ books z = nI n ∧ ∀ b, b < n → (∃ c : Nat, c < 48 ∧ cl b = nI c ∧ told (30 * z + 5 * b) = nI c) ∧ fr b = told (30 * z + 5 * b + 1) ∧ to b = told (30 * z + 5 * b + 2) ∧ lo b = told (30 * z + 5 * b + 3) ∧ hi b = told (30 * z + 5 * b + 4) ∧ (-9999 ≤ (fr b).toInt ∧ (fr b).toInt ≤ (to b).toInt ∧ (to b).toInt ≤ 9999) ∧ (0 ≤ (lo b).toInt ∧ (lo b).toInt ≤ (hi b).toInt ∧ (hi b).toInt ≤ 999)
/-- SHEETS -/
def RSh (z : Nat) (ms od yg : A32) (ct : Int32) (sheets marsh oldest youngest : A32) : Prop := ∃ n : Nat, n ≤ 12 ∧ ct = nI n ∧ sheets z = nI n ∧ ∀ i, i < n → ∃ m o y : Nat, m ≤ 5 ∧ o ≤ y ∧ y ≤ 9999 ∧ ms i = nI m ∧ marsh (12 * z + i) = nI m ∧ od i = nI o ∧ oldest (12 * z + i) = nI o ∧ yg i = nI y ∧ youngest (12 * z + i) = nI y
/-- KNOWN slips -/
def RKn (z : Nat) (yr : A32) (ct : Int32) (knowns known : A32) : Prop := ∃ n : Nat, n ≤ 16 ∧ ct = nI n ∧ knowns z = nI n ∧ (∀ i, i < n → ∃ y : Nat, y ≤ 9999 ∧ yr i = nI y ∧ known (16 * z + i) = nI y) ∧ ∀ i, i + 1 < n → yr i < yr (i + 1)
/-- WEIGHTS -/
def RWt (z : Nat) (wt weight : A64) : Prop := ∀ s, s < 5 → ∃ w : Nat, w ≤ 1000000000000 ∧ wt s = lN w ∧ weight (5 * z + s) = lN w
/-- what was DUG -/
def RDg (z : Nat) (dg : Int32) (digs : A32) : Prop := ∃ d : Nat, d < 64 ∧ dg = nI d ∧ digs z = nI d
/-- CHANCES -/
def RCh (ch : G32) (chance : A32) : Prop := ∀ s m, s < 5 → m < 6 → ∃ v : Nat, v ≤ 10 ∧ ch s m = nI v ∧ chance (6 * s + m) = nI v
/-- THE CALENDAR -/
def RCa (lg : G32) (mo : A32) (yr : Int32) (months years : A32) : Prop := ∃ n : Nat, n ≤ 8 ∧ yr = nI n ∧ years 0 = nI n ∧ ∀ y, y < n → ∃ k : Nat, 12 ≤ k ∧ k ≤ 13 ∧ mo y = nI k ∧ months (14 * y) = nI k ∧ ∀ m, m < k → ∃ v : Nat, 29 ≤ v ∧ v ≤ 30 ∧ lg y m = nI v ∧ months (14 * y + 1 + m) = nI v
theorem cl_0 : (0 : Int32).toNatClampNeg = 0 := by decide
theorem cl_1 : (1 : Int32).toNatClampNeg = 1 := by decide
theorem cl_2 : (2 : Int32).toNatClampNeg = 2 := by decide
theorem upd_s (f : A32) (k : Nat) (x : Int32) : upd f k x k = x := pk_us
theorem upd_n {f : A32} {k j : Nat} {x : Int32} (h : j ≠ k) : upd f k x j = f j := pk_un h
theorem updL_s (f : A64) (k : Nat) (x : Int64) : vp_updL f k x k = x := pk_uLs
theorem updL_n {f : A64} {k j : Nat} {x : Int64} (h : j ≠ k) : vp_updL f k x j = f j := pk_uLn h
theorem up2_s (f : G32) (i j : Nat) (x : Int32) : up2 f i j x i j = x := by unfold up2; rw [if_pos rfl]; exact pk_us
theorem up2_n {f : G32} {i j a b : Nat} {x : Int32} (h : a ≠ i ∨ b ≠ j) : up2 f i j x a b = f a b := by
  unfold up2
  by_cases e : a = i
  · subst e
    rw [if_pos rfl]
    exact pk_un (h.elim (fun q => absurd rfl q) id)
  · rw [if_neg e]
/-! ===== clear, depth, tune ===== -/
theorem op_clear {bt tx : A32} {ln ty : Int32} (h : RT bt ln tx ty) : ∃ r ln' ty', f_X11_clear ln = some (r, ln') ∧ f_X12_clear ty = some (r, ty') ∧ RT bt ln' tx ty' := by
  obtain ⟨t, ht, rfl, rfl, -⟩ := h
  exact ⟨nI t, 0, 0, rfl, rfl, 0, by omega, rfl, rfl, fun j hj => absurd hj (by omega)⟩
theorem op_depth {dp md : A32} (h : RDp dp md) (x : Int32) : ∃ r, f_X11_depth x dp = some r ∧ f_X12_depth x md = some r := by
  unfold f_X11_depth f_X12_depth
  simp only [isCell_eq, mCell_eq, pcl_some, pbr_bI]
  by_cases hc : 0 ≤ x ∧ x ≤ 47
  · obtain ⟨j, -, hj, rfl⟩ := of_span (a := 0) (b := 47) (by omega) (by omega) hc.1 hc.2
    rw [pbr_pos hc, pbr_pos hc, pgd_pos (pin_nI (by omega) (by omega)), pgd_pos (pin_nI (by omega) (by omega)), nI_cl (by omega)]
    exact ⟨_, rfl, by rw [(h j (by omega)).1]⟩
  · rw [pbr_neg hc, pbr_neg hc]
    exact ⟨_, rfl, rfl⟩
theorem op_tune {pc fd yn : Int32} {tu : A32} (h : RTu pc fd yn tu) (x v : Int32) : ∃ r yn' pc' fd' tu', f_X11_tune x v yn pc fd = some (r, yn', pc', fd') ∧ f_X12_tune x v tu = some (r, tu') ∧ RTu pc' fd' yn' tu' := by
  obtain ⟨⟨p, p1, p2, rfl, hp⟩, ⟨f, f1, f2, rfl, hf⟩, y, y1, rfl, hy⟩ := h
  have n01 : ¬ (0 : Int32) = 1 := by decide
  have n02 : ¬ (0 : Int32) = 2 := by decide
  have n10 : ¬ (1 : Int32) = 0 := by decide
  have n12 : ¬ (1 : Int32) = 2 := by decide
  have n20 : ¬ (2 : Int32) = 0 := by decide
  have n21 : ¬ (2 : Int32) = 1 := by decide
  unfold f_X11_tune f_X11_tune_35 f_X11_tune_70 f_X12_tune f_X12_tune_20 f_X12_tune_43
  simp only [within_eq, in_eq, isYear_eq, pcl_some, pbr_bI, plt_eq]
  by_cases e0 : x = 0
  · subst e0
    rw [pbr_pos rfl, pbr_pos (show (0 : Int32) ≤ 0 ∧ (0 : Int32) ≤ 2 by decide), pbr_neg (show ¬ (2 : Int32) ≤ 0 by decide), pbr_pos rfl]
    by_cases hc : 1 ≤ v ∧ v ≤ 9
    · obtain ⟨j, j1, j2, rfl⟩ := of_span (a := 1) (b := 9) (by omega) (by omega) hc.1 hc.2
      rw [pbr_pos hc, pbr_pos hc, pgd_pos (show pin 0 3 by decide), cl_0]
      exact ⟨_, _, _, _, _, rfl, by rw [hp], ⟨j, j1, j2, rfl, upd_s _ _ _⟩, ⟨f, f1, f2, rfl, (upd_n (by decide)).trans hf⟩, y, y1, rfl, (upd_n (by decide)).trans hy⟩
    · rw [pbr_neg hc, pbr_neg hc, pbr_neg n01, pbr_neg n02]
      exact ⟨_, _, _, _, _, rfl, rfl, ⟨p, p1, p2, rfl, hp⟩, ⟨f, f1, f2, rfl, hf⟩, y, y1, rfl, hy⟩
  · rw [pbr_neg e0]
    by_cases e1 : x = 1
    · subst e1
      rw [pbr_pos rfl, pbr_pos (show (0 : Int32) ≤ 1 ∧ (1 : Int32) ≤ 2 by decide), pbr_neg (show ¬ (2 : Int32) ≤ 1 by decide), pbr_neg n10, pbr_pos rfl]
      by_cases hc : 1 ≤ v ∧ v ≤ 999
      · obtain ⟨j, j1, j2, rfl⟩ := of_span (a := 1) (b := 999) (by omega) (by omega) hc.1 hc.2
        rw [pbr_pos hc, pbr_pos hc, pgd_pos (show pin 1 3 by decide), cl_1]
        exact ⟨_, _, _, _, _, rfl, by rw [hf], ⟨p, p1, p2, rfl, (upd_n (by decide)).trans hp⟩, ⟨j, j1, j2, rfl, upd_s _ _ _⟩, y, y1, rfl, (upd_n (by decide)).trans hy⟩
      · rw [pbr_neg hc, pbr_neg hc, pbr_neg n12]
        exact ⟨_, _, _, _, _, rfl, rfl, ⟨p, p1, p2, rfl, hp⟩, ⟨f, f1, f2, rfl, hf⟩, y, y1, rfl, hy⟩
    · rw [pbr_neg e1]
      by_cases e2 : x = 2
      · subst e2
        rw [pbr_pos rfl, pbr_pos (show (0 : Int32) ≤ 2 ∧ (2 : Int32) ≤ 2 by decide), pbr_pos (show (2 : Int32) ≤ 2 by decide), pbr_neg n20, pbr_neg n21]
        by_cases hc : 0 ≤ v ∧ v ≤ 9999
        · obtain ⟨j, j1, j2, rfl⟩ := of_span (a := 0) (b := 9999) (by omega) (by omega) hc.1 hc.2
          rw [pbr_pos hc, pbr_pos hc, pgd_pos (show pin 2 3 by decide), cl_2]
          exact ⟨_, _, _, _, _, rfl, by rw [hy], ⟨p, p1, p2, rfl, (upd_n (by decide)).trans hp⟩, ⟨f, f1, f2, rfl, (upd_n (by decide)).trans hf⟩, j, j2, rfl, upd_s _ _ _⟩
        · rw [pbr_neg hc, pbr_neg hc]
          exact ⟨_, _, _, _, _, rfl, rfl, ⟨p, p1, p2, rfl, hp⟩, ⟨f, f1, f2, rfl, hf⟩, y, y1, rfl, hy⟩
      · rw [pbr_neg e2, pbr_neg (show ¬ ((0 : Int32) ≤ x ∧ x ≤ 2) from fun q => by
          obtain ⟨j, j1, j2, rfl⟩ := of_span (a := 0) (b := 2) (by omega) (by omega) q.1 q.2
          rcases (show j = 0 ∨ j = 1 ∨ j = 2 by omega) with rfl | rfl | rfl
          · exact e0 rfl
          · exact e1 rfl
          · exact e2 rfl)]
        exact ⟨_, _, _, _, _, rfl, rfl, ⟨p, p1, p2, rfl, hp⟩, ⟨f, f1, f2, rfl, hf⟩, y, y1, rfl, hy⟩
/-! ===== living trees and woods grow ===== -/
theorem op_ring {lr ring : A32} {lc fy rings mfy : Int32} (h : RLv lr lc fy ring rings mfy) (x : Int32) : ∃ r lc' lr' rings' ring', f_X11_ring x lc lr = some (r, lc', lr') ∧ f_X12_ring x rings ring = some (r, rings', ring') ∧ RLv lr' lc' fy ring' rings' mfy := by
  obtain ⟨⟨n, n1, rfl, rfl, hr⟩, hy⟩ := h
  unfold f_X11_ring f_X12_ring f_X10_grow
  simp only [isWidth_eq, in_eq, pcl_some, pbr_bI, plt_eq]
  by_cases hc : 0 ≤ x ∧ x ≤ 99
  · obtain ⟨j, -, j2, rfl⟩ := of_span (a := 0) (b := 99) (by omega) (by omega) hc.1 hc.2
    rw [pbr_pos hc, pbr_pos hc]
    by_cases e : n = 60
    · subst e
      rw [pbr_neg (show ¬ nI 60 < 60 by decide), pbr_pos (show nI 60 = 60 by decide)]
      exact ⟨_, _, _, _, _, rfl, rfl, ⟨60, by omega, rfl, rfl, hr⟩, hy⟩
    · rw [pbr_pos (show nI n < 60 from (nI_lt_iff (b := 60) (by omega) (by omega)).mpr (by omega)), pbr_neg (show ¬ nI n = 60 from fun q => e ((nI_eq_iff (b := 60) (by omega) (by omega)).mp q)), pgd_pos (pin_nI (by omega) (by omega)), pgd_pos (pin_nI (by omega) (by omega)), pcl_some, nI_cl (by omega), nI_1]
      dsimp only
      refine ⟨_, _, _, _, _, rfl, rfl, ⟨n + 1, by omega, rfl, rfl, fun k hk => ?_⟩, hy⟩
      by_cases ek : k = n
      · subst ek
        exact ⟨by rw [upd_s, upd_s], j, j2, upd_s _ _ _⟩
      · rw [upd_n ek, upd_n ek]
        exact hr k (by omega)
  · rw [pbr_neg hc, pbr_neg hc]
    exact ⟨_, _, _, _, _, rfl, rfl, ⟨n, n1, rfl, rfl, hr⟩, hy⟩
theorem op_living {lr ring : A32} {lc fy rings mfy : Int32} (h : RLv lr lc fy ring rings mfy) (x : Int32) : ∃ r lc' fy' rings' mfy', f_X11_living x lc fy = some (r, lc', fy') ∧ f_X12_living x mfy rings = some (r, mfy', rings') ∧ RLv lr lc' fy' ring rings' mfy' := by
  obtain ⟨⟨n, n1, rfl, rfl, hr⟩, hy⟩ := h
  unfold f_X11_living f_X12_living f_X10_plant
  simp only [isYear_eq, in_eq, pcl_some, pbr_bI]
  by_cases hc : 0 ≤ x ∧ x ≤ 9999
  · obtain ⟨j, -, j2, rfl⟩ := of_span (a := 0) (b := 9999) (by omega) (by omega) hc.1 hc.2
    rw [pbr_pos hc, pbr_pos hc]
    exact ⟨_, _, _, _, _, rfl, rfl, ⟨0, by omega, rfl, rfl, fun k hk => absurd hk (by omega)⟩, j, j2, rfl, rfl⟩
  · rw [pbr_neg hc, pbr_neg hc]
    exact ⟨_, _, _, _, _, rfl, rfl, ⟨n, n1, rfl, rfl, hr⟩, hy⟩
theorem op_wood {wr : G32} {wc en wood woods mends : A32} (h : RWd wr wc en wood woods mends) (x v : Int32) : ∃ r wc' wr' woods' wood', f_X11_wood x v wc wr = some (r, wc', wr') ∧ f_X12_wood x v woods wood = some (r, woods', wood') ∧ RWd wr' wc' en wood' woods' mends := by
  unfold f_X11_wood f_X12_wood f_X10_growWood
  simp only [isWood_eq, isWidth_eq, mWood_eq, in_eq, pcl_some, pbr_bI, plt_eq]
  by_cases hc : 0 ≤ x ∧ x ≤ 3
  · obtain ⟨w, -, w2, rfl⟩ := of_span (a := 0) (b := 3) (by omega) (by omega) hc.1 hc.2
    rw [pbr_pos hc, pbr_pos hc]
    by_cases hd : 0 ≤ v ∧ v ≤ 99
    · obtain ⟨j, -, j2, rfl⟩ := of_span (a := 0) (b := 99) (by omega) (by omega) hd.1 hd.2
      obtain ⟨⟨k, k1, k2, k3, k4⟩, k5⟩ := h w (by omega)
      rw [pbr_pos hd, pbr_pos hd, pgd_pos (pin_nI (by omega) (by omega)), pgd_pos (pin_nI (by omega) (by omega)), pgd_pos (pin_nI (by omega) (by omega))]
      simp only [nI_cl (show w < 2147483648 by omega), k2, k3]
      by_cases e : k = 30
      · subst e
        rw [pbr_neg (show ¬ nI 30 < 30 by decide), pbr_pos (show nI 30 = 30 by decide)]
        exact ⟨_, _, _, _, _, rfl, rfl, h⟩
      · have e30 : (30 : Int32) * nI w + nI k = nI (30 * w + k) := by rw [show (30 : Int32) = nI 30 from rfl, nI_mul, nI_add]
        simp only [e30]
        rw [pbr_pos (show nI k < 30 from (nI_lt_iff (b := 30) (by omega) (by omega)).mpr (by omega)), pbr_neg (show ¬ nI k = 30 from fun q => e ((nI_eq_iff (b := 30) (by omega) (by omega)).mp q)), pgd_pos (pin_nI (by omega) (by omega)), pgd_pos (pin_nI (by omega) (by omega)), pcl_some]
        simp only [nI_cl (show k < 2147483648 by omega), nI_cl (show 30 * w + k < 2147483648 by omega), nI_1, upd_s]
        refine ⟨_, _, _, _, _, rfl, rfl, fun a ha => ?_⟩
        by_cases ea : a = w
        · subst ea
          refine ⟨⟨k + 1, by omega, upd_s _ _ _, upd_s _ _ _, fun b hb => ?_⟩, k5⟩
          by_cases eb : b = k
          · subst eb
            rw [up2_s, upd_s]
            exact ⟨rfl, j, j2, rfl⟩
          · rw [up2_n (Or.inr eb), upd_n (by omega)]
            exact k4 b (by omega)
        · obtain ⟨⟨q, q1, q2, q3, q4⟩, q5⟩ := h a ha
          refine ⟨⟨q, q1, by rw [upd_n ea]; exact q2, by rw [upd_n ea]; exact q3, fun b hb => ?_⟩, q5⟩
          rw [up2_n (Or.inl ea), upd_n (by omega)]
          exact q4 b hb
    · rw [pbr_neg hd, pbr_neg hd]
      exact ⟨_, _, _, _, _, rfl, rfl, h⟩
  · rw [pbr_neg hc, pbr_neg hc]
    exact ⟨_, _, _, _, _, rfl, rfl, h⟩
theorem op_felled {wr : G32} {wc en wood woods mends : A32} (h : RWd wr wc en wood woods mends) (x v : Int32) : ∃ r wc' en' woods' mends', f_X11_felled x v wc en = some (r, wc', en') ∧ f_X12_felled x v woods mends = some (r, woods', mends') ∧ RWd wr wc' en' wood woods' mends' := by
  unfold f_X11_felled f_X12_felled f_X10_startWood
  simp only [isWood_eq, isBit_eq, mWood_eq, in_eq, pcl_some, pbr_bI, plt_eq]
  by_cases hc : 0 ≤ x ∧ x ≤ 3
  · obtain ⟨w, -, w2, rfl⟩ := of_span (a := 0) (b := 3) (by omega) (by omega) hc.1 hc.2
    rw [pbr_pos hc, pbr_pos hc]
    by_cases hd : v = 0 ∨ v = 1
    · obtain ⟨⟨k, k1, k2, k3, k4⟩, k5⟩ := h w (by omega)
      rw [pbr_pos hd, pbr_pos ((bit_span v).mp hd), pgd_pos (pin_nI (by omega) (by omega)), pgd_pos (pin_nI (by omega) (by omega)), pcl_some, nI_cl (by omega), k2, k3]
      dsimp only
      refine ⟨_, _, _, _, _, rfl, rfl, fun a ha => ?_⟩
      by_cases ea : a = w
      · subst ea
        exact ⟨⟨0, by omega, upd_s _ _ _, upd_s _ _ _, fun b hb => absurd hb (by omega)⟩, by rw [upd_s, upd_s], by rw [upd_s]; exact hd⟩
      · rw [upd_n ea, upd_n ea, upd_n ea, upd_n ea]
        exact h a ha
    · rw [pbr_neg hd, pbr_neg (fun q => hd ((bit_span v).mpr q))]
      exact ⟨_, _, _, _, _, rfl, rfl, h⟩
  · rw [pbr_neg hc, pbr_neg hc]
    exact ⟨_, _, _, _, _, rfl, rfl, h⟩
