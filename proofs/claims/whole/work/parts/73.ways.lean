/-! ===== ways and whence ===== -/
def cF (F : Nat → Bool) : Nat → Nat → Nat
  | 0, _ => 0
  | c + 1, z => (if F z = true then 1 else 0) + cF F c (z + 1)
theorem cF_le (F : Nat → Bool) : ∀ c z : Nat, cF F c z ≤ c
  | 0, _ => Nat.le_refl 0
  | c + 1, z => by
    show (if F z = true then 1 else 0) + cF F c (z + 1) ≤ c + 1
    have := cF_le F c (z + 1)
    by_cases h : F z = true
    · rw [if_pos h]; omega
    · rw [if_neg h]; omega
theorem cF_zero {F : Nat → Bool} (h : ∀ z, ¬ F z = true) : ∀ c z : Nat, cF F c z = 0
  | 0, _ => rfl
  | c + 1, z => by
    show (if F z = true then 1 else 0) + cF F c (z + 1) = 0
    rw [if_neg (h z), cF_zero h c (z + 1)]
theorem cF_pos {F : Nat → Bool} : ∀ c z : Nat, cF F c z ≠ 0 → ∃ y, z ≤ y ∧ y < z + c ∧ F y = true
  | 0, _, h => absurd rfl h
  | c + 1, z, h => by
    by_cases g : F z = true
    · exact ⟨z, Nat.le_refl z, by omega, g⟩
    · have h' : (if F z = true then 1 else 0) + cF F c (z + 1) ≠ 0 := h
      rw [if_neg g, Nat.zero_add] at h'
      obtain ⟨y, y1, y2, y3⟩ := cF_pos c (z + 1) h'
      exact ⟨y, by omega, by omega, y3⟩
theorem mul_nI1 (r : Int32) (k : Nat) : r * nI (1 + k) = r + r * nI k := by
  rw [← nI_add, Int32.mul_add, show nI 1 = 1 from rfl, Int32.mul_one]
section SRCH2
variable {dp md : A32} {pc fd : Int32} {tu : A32} {d : Nat → Nat} {p f : Nat} {cl fr to lo hi books told : A32} {n : Nat} {cN : Nat → Nat} {times : G32} {far : A32} {a : Nat} {t : Nat → Option Nat} {F : Nat → Bool} {Wf : Nat → Int32}
theorem cw_loop (Z : SR dp md pc fd tu d p f cl fr to lo hi books told n cN) (T : TmOK d n cN times far a t) (hF : ∀ z, F z = true ↔ fitA d f cN lo hi t n z) (r : Int32) : ∀ (c z fu x : Nat), z + c = 100 → c < fu → f_X5_waysOf_17 (nI n) to fr fd cl dp lo hi times (nI a) fu r (nI x) (nI z) = some (r * nI (x + cF F c z))
  | 0, z, fu, x, h, hfu => by
    obtain ⟨fu', rfl⟩ : ∃ f, fu = f + 1 := ⟨fu - 1, by omega⟩
    rw [f_X5_waysOf_17, pbr_pos (show (99 : Int32) < nI z from lt_t (a := 99) (by omega))]
    rfl
  | c + 1, z, fu, x, h, hfu => by
    obtain ⟨fu', rfl⟩ : ∃ f, fu = f + 1 := ⟨fu - 1, by omega⟩
    obtain ⟨f1, f2⟩ := hfit Z T (show z ≤ 99 by omega)
    rw [f_X5_waysOf_17, pbr_neg (show ¬ (99 : Int32) < nI z from lt_f (a := 99) (by omega))]
    show _ = some (r * nI (x + ((if F z = true then 1 else 0) + cF F c (z + 1))))
    by_cases g : F z = true
    · rw [f1 ((hF z).mp g), pcl_some, pbr_neg (show ¬ (1 : Int32) = 0 by decide), plt_eq, plt_eq, nI_1, nI_1, if_pos g, cw_loop Z T hF r c (z + 1) fu' (x + 1) (by omega) (by omega), Nat.add_assoc]
    · rw [f2 (fun q => g ((hF z).mpr q)), pcl_some, pbr_pos rfl, plt_eq, nI_1, if_neg g, cw_loop Z T hF r c (z + 1) fu' x (by omega) (by omega), Nat.zero_add]
theorem mw_loop (Z : SR dp md pc fd tu d p f cl fr to lo hi books told n cN) (T : TmOK d n cN times far a t) (hF : ∀ z, F z = true ↔ fitA d f cN lo hi t n z) (x1 : Int32) : ∀ (c z fu : Nat) (X E L : Int32), z + c = 100 → c < fu → ∃ E' L', f_X12_waysOf_9 md tu books told x1 fu X (nI z) E L far = some (X + r1 fr to t n * nI (cF F c z), E', L', far)
  | 0, z, fu, X, E, L, h, hfu => by
    obtain ⟨fu', rfl⟩ : ∃ f, fu = f + 1 := ⟨fu - 1, by omega⟩
    refine ⟨E, L, ?_⟩
    rw [f_X12_waysOf_9, pbr_pos (show (100 : Int32) ≤ nI z from le_t (a := 100) (by omega))]
    show _ = some (X + r1 fr to t n * nI 0, E, L, far)
    rw [show nI 0 = 0 from rfl, Int32.mul_zero, Int32.add_zero]
  | c + 1, z, fu, X, E, L, h, hfu => by
    obtain ⟨fu', rfl⟩ : ∃ f, fu = f + 1 := ⟨fu - 1, by omega⟩
    obtain ⟨m1, m2⟩ := mbeg Z T (show z ≤ 99 by omega) E L
    rw [f_X12_waysOf_9, pbr_neg (show ¬ (100 : Int32) ≤ nI z from le_f (a := 100) (by omega))]
    show ∃ E' L', _ = some (X + r1 fr to t n * nI ((if F z = true then 1 else 0) + cF F c (z + 1)), E', L', far)
    by_cases g : F z = true
    · rw [m1 ((hF z).mp g), pcl_some, if_pos g, mul_nI1, ← Int32.add_assoc]
      dsimp only
      rw [plt_eq, plt_eq, nI_1]
      exact mw_loop Z T hF x1 c (z + 1) fu' _ _ _ (by omega) (by omega)
    · obtain ⟨E1, L1, q⟩ := m2 (fun q => g ((hF z).mpr q))
      rw [q, pcl_some, if_neg g, Nat.zero_add]
      dsimp only
      rw [plt_eq, plt_eq, nI_1, Int32.add_zero]
      exact mw_loop Z T hF x1 c (z + 1) fu' _ _ _ (by omega) (by omega)
/-- ways from one cell, on both sides -/
def WfOK (dp md : A32) (fd : Int32) (tu : A32) (d : Nat → Nat) (f : Nat) (cl fr to lo hi books told : A32) (n : Nat) (cN : Nat → Nat) (times : G32) (a : Nat) (w : Int32) : Prop := f_X5_waysOf (nI a) (nI n) to fr fd cl dp lo hi times = some w ∧ (0 < d a → ∀ e0 l0 far0, ∃ E L far', f_X12_waysOf (nI a) e0 l0 md far0 tu books told = some (w, E, L, far')) ∧ (d a = 0 → w = 0) ∧ (w ≠ 0 → come (tOf times a) n ∧ eC fr (tOf times a) n ≤ lC to (tOf times a) n ∧ ∃ z, 1 ≤ z ∧ z ≤ 99 ∧ fitA d f cN lo hi (tOf times a) n z)
theorem fit_dec (d : Nat → Nat) (f : Nat) (cN : Nat → Nat) (lo hi : A32) (t : Nat → Option Nat) (n : Nat) : ∃ F : Nat → Bool, ∀ z, F z = true ↔ fitA d f cN lo hi t n z := ⟨fun z => @decide _ (Classical.propDecidable (fitA d f cN lo hi t n z)), fun z => @decide_eq_true_iff _ (Classical.propDecidable _)⟩
theorem ways_cell (Z : SR dp md pc fd tu d p f cl fr to lo hi books told n cN) (R : RowsOK d p n cN times) (ha : a < 48) : ∃ w, WfOK dp md fd tu d f cl fr to lo hi books told n cN times a w := by
  have hFU := FU_big
  obtain ⟨H, h9, hf, K, hn⟩ := id Z
  obtain ⟨far1, -, F1⟩ := begin_eq H h9 ha (fun _ => 0)
  have T := tm_ok K R ha F1
  obtain ⟨F, hF⟩ := fit_dec d f cN lo hi (tOf times a) n
  have hb := byHours_eq K hn T
  have hnot : ¬ come (tOf times a) n → r1 fr to (tOf times a) n * nI (cF F 99 1) = 0 := fun hc => by
    rw [cF_zero (fun z q => hc (fit_come ((hF z).mp q))), show nI 0 = 0 from rfl, Int32.mul_zero]
  refine ⟨r1 fr to (tOf times a) n * nI (cF F 99 1), ?_, fun hsea e0 l0 far0 => ?_, fun hd => hnot (fun hc => ?_), fun hw => ?_⟩
  · unfold f_X5_waysOf
    rcases hb with ⟨hc, z⟩ | ⟨hc, z⟩
    · rw [z, pcl_some]
      by_cases e : r1 fr to (tOf times a) n = 0
      · rw [pbr_pos e, e, Int32.zero_mul]
      · rw [pbr_neg e]
        have key := cw_loop Z T hF (r1 fr to (tOf times a) n) 99 1 FU 0 (by omega) (by omega)
        rw [Nat.zero_add] at key
        exact key
    · rw [z, pcl_some, pbr_pos rfl, hnot hc]
  · obtain ⟨far', f1, F2⟩ := begin_eq H h9 ha far0
    obtain ⟨E, L, q⟩ := mw_loop Z (tm_ok K R ha F2) hF (nI a) 99 1 FU 0 e0 l0 (by omega) (by omega)
    rw [Int32.zero_add] at q
    refine ⟨E, L, far', ?_⟩
    unfold f_X12_waysOf
    rw [f1, pcl_some]
    exact q
  · obtain ⟨k, hk⟩ := hc 0 (by omega)
    rcases R 0 (by omega) a ha with ⟨e1, -⟩ | ⟨j, -, -, ⟨m, hm⟩, -⟩
    · unfold tOf at hk
      rw [if_pos e1] at hk
      exact nomatch hk
    · have h1 : 0 < d a := (PP_start hm).2
      omega
  · rcases hb with ⟨hc, -⟩ | ⟨hc, -⟩
    · refine ⟨hc, ?_, ?_⟩
      · apply Classical.byContradiction
        intro g
        refine hw ?_
        unfold r1
        rw [if_neg g, Int32.zero_mul]
      · have h1 : cF F 99 1 ≠ 0 := fun e => hw (by rw [e, show nI 0 = 0 from rfl, Int32.mul_zero])
        obtain ⟨y, y1, y2, y3⟩ := cF_pos 99 1 h1
        exact ⟨y, y1, by omega, (hF y).mp y3⟩
    · exact absurd (hnot hc) hw
theorem ways_all (Z : SR dp md pc fd tu d p f cl fr to lo hi books told n cN) (R : RowsOK d p n cN times) : ∃ Wf : Nat → Int32, ∀ a, a < 48 → WfOK dp md fd tu d f cl fr to lo hi books told n cN times a (Wf a) := by
  refine ⟨fun a => (f_X5_waysOf (nI a) (nI n) to fr fd cl dp lo hi times).getD 0, fun a ha => ?_⟩
  obtain ⟨w, hw⟩ := ways_cell Z R ha
  have e : (f_X5_waysOf (nI a) (nI n) to fr fd cl dp lo hi times).getD 0 = w := by rw [hw.1]; rfl
  show WfOK dp md fd tu d f cl fr to lo hi books told n cN times a ((f_X5_waysOf (nI a) (nI n) to fr fd cl dp lo hi times).getD 0)
  rw [e]
  exact hw
theorem all_loop (hW : ∀ a, a < 48 → WfOK dp md fd tu d f cl fr to lo hi books told n cN times a (Wf a)) : ∀ (c z fu : Nat) (X : Int32), z + c = 48 → c < fu → f_X5_allWays_4 (nI n) fd to fr cl dp lo hi times fu X (nI z) = some (foldI (fun z X => X + Wf z) z c X)
  | 0, z, fu, X, h, hfu => by
    obtain ⟨fu', rfl⟩ : ∃ f, fu = f + 1 := ⟨fu - 1, by omega⟩
    rw [f_X5_allWays_4, pbr_pos (show (48 : Int32) ≤ nI z from le_t (a := 48) (by omega))]
    rfl
  | c + 1, z, fu, X, h, hfu => by
    obtain ⟨fu', rfl⟩ : ∃ f, fu = f + 1 := ⟨fu - 1, by omega⟩
    rw [f_X5_allWays_4, pbr_neg (show ¬ (48 : Int32) ≤ nI z from le_f (a := 48) (by omega)), (hW z (by omega)).1, pcl_some, plt_eq, plt_eq, nI_1, all_loop hW c (z + 1) fu' _ (by omega) (by omega)]
    rfl
theorem msea (H : OcOK dp md pc tu d p) {z : Nat} (hz : z < 48) : f_X12_isSea (nI z) md = some (bI (0 < d z)) := by
  obtain ⟨d1, -, d2⟩ := H.1 z hz
  unfold f_X12_isSea
  simp only [mCell_eq, pcl_some, pbr_bI]
  rw [pbr_pos (show (0 : Int32) ≤ nI z ∧ nI z ≤ 47 from ⟨le_t (a := 0) (by omega), le_t (b := 47) (by omega)⟩), pgd_pos (pin_nI (by omega) (by omega)), nI_cl (by omega), d2]
  by_cases g : 0 < d z
  · rw [pbr_neg (show ¬ nI (d z) ≤ 0 from le_f (b := 0) g), bI_pos g]
  · rw [pbr_pos (show nI (d z) ≤ 0 from le_t (b := 0) (by omega)), bI_neg g]
theorem mways_loop (H : OcOK dp md pc tu d p) (hW : ∀ a, a < 48 → WfOK dp md fd tu d f cl fr to lo hi books told n cN times a (Wf a)) (x1 : Int32) : ∀ (c z fu : Nat) (X E L : Int32) (far : A32), z + c = 48 → c < fu → ∃ E' L' far', f_X12_ways_31 md books tu told x1 fu X (nI z) E L far = some (foldI (fun z X => X + if x1 = -1 ∨ x1 = nI z then Wf z else 0) z c X, E', L', far')
  | 0, z, fu, X, E, L, far, h, hfu => by
    obtain ⟨fu', rfl⟩ : ∃ f, fu = f + 1 := ⟨fu - 1, by omega⟩
    refine ⟨E, L, far, ?_⟩
    rw [f_X12_ways_31, pbr_pos (show (48 : Int32) ≤ nI z from le_t (a := 48) (by omega))]
    rfl
  | c + 1, z, fu, X, E, L, far, h, hfu => by
    obtain ⟨fu', rfl⟩ : ∃ f, fu = f + 1 := ⟨fu - 1, by omega⟩
    obtain ⟨-, w2, w3, -⟩ := hW z (by omega)
    show ∃ E' L' far', _ = some (foldI (fun z X => X + if x1 = -1 ∨ x1 = nI z then Wf z else 0) (z + 1) c (X + if x1 = -1 ∨ x1 = nI z then Wf z else 0), E', L', far')
    have no : (if x1 = -1 ∨ x1 = nI z then Wf z else 0) = 0 → ∃ E' L' far', f_X12_ways_64 (f_X12_ways_31 md books tu told x1 fu') md books tu told x1 (nI z) X E L far = some (foldI (fun z X => X + if x1 = -1 ∨ x1 = nI z then Wf z else 0) (z + 1) c (X + if x1 = -1 ∨ x1 = nI z then Wf z else 0), E', L', far') := fun e => by
      unfold f_X12_ways_64 f_X12_ways_65
      rw [e, plt_eq, plt_eq, nI_1]
      exact mways_loop H hW x1 c (z + 1) fu' _ E L far (by omega) (by omega)
    have yes : 0 < d z → (x1 = -1 ∨ x1 = nI z) → ∃ E' L' far', f_X12_ways_56 (f_X12_ways_31 md books tu told x1 fu') md books tu told x1 (nI z) X E L far = some (foldI (fun z X => X + if x1 = -1 ∨ x1 = nI z then Wf z else 0) (z + 1) c (X + if x1 = -1 ∨ x1 = nI z then Wf z else 0), E', L', far') := fun hd e => by
      obtain ⟨E1, L1, far1, q⟩ := w2 hd E L far
      unfold f_X12_ways_56
      rw [q, pcl_some, if_pos e]
      dsimp only
      unfold f_X12_ways_65
      rw [plt_eq, plt_eq, nI_1]
      exact mways_loop H hW x1 c (z + 1) fu' _ E1 L1 far1 (by omega) (by omega)
    rw [f_X12_ways_31, pbr_neg (show ¬ (48 : Int32) ≤ nI z from le_f (a := 48) (by omega)), msea H (by omega), pcl_some, pbr_bI]
    by_cases g : 0 < d z
    · rw [pbr_pos g]
      by_cases e1 : x1 = -1
      · rw [pbr_pos e1]; exact yes g (Or.inl e1)
      · rw [pbr_neg e1]
        by_cases e2 : x1 = nI z
        · rw [pbr_pos e2]; exact yes g (Or.inr e2)
        · rw [pbr_neg e2]; exact no (if_neg (fun q => q.elim e1 e2))
    · rw [pbr_neg g]
      refine no ?_
      rw [w3 (by omega)]
      exact ite_self _
theorem foldI_one {a : Nat} (ha : a < 48) (W : Nat → Int32) : ∀ (c i : Nat) (X : Int32), i + c ≤ 48 → foldI (fun z X => X + if nI a = -1 ∨ nI a = nI z then W z else 0) i c X = X + if i ≤ a ∧ a < i + c then W a else 0
  | 0, i, X, h => by
    show X = _
    rw [if_neg (by omega), Int32.add_zero]
  | c + 1, i, X, h => by
    show foldI _ (i + 1) c (X + if nI a = -1 ∨ nI a = nI i then W i else 0) = _
    rw [foldI_one ha W c (i + 1) _ (by omega)]
    have h1 : ¬ nI a = -1 := fun q => by
      rw [i_eq, nI_int (by omega), show (-1 : Int32).toInt = -1 by decide] at q
      omega
    by_cases e : a = i
    · subst e
      rw [if_pos (Or.inr rfl), if_neg (by omega), if_pos (by omega), Int32.add_zero]
    · have h2 : ¬ nI a = nI i := eq_f e
      rw [if_neg (fun q => q.elim h1 h2), Int32.add_zero]
      by_cases g : i + 1 ≤ a ∧ a < i + 1 + c
      · rw [if_pos g, if_pos (by omega)]
      · rw [if_neg g, if_neg (by omega)]
theorem op_ways (h : RDp dp md) {yn ct : Int32} (ht : RTu pc fd yn tu) (hb : RBk 0 cl fr to lo hi ct books told) (times : G32) (far : A32) (e0 l0 x1 : Int32) : ∃ r times' E L far', f_X11_ways x1 pc fd dp ct cl to fr lo hi times = some (r, times') ∧ f_X12_ways x1 e0 l0 md books far tu told = some (r, E, L, far') := by
  have hFU := FU_big
  have main : (x1 = -1 ∨ ∃ a, a < 48 ∧ x1 = nI a) → ∃ r times' E L far', f_X11_ways_18 pc fd dp ct cl to fr lo hi x1 times = some (r, times') ∧ f_X12_ways_15 md books tu told x1 e0 l0 far = some (r, E, L, far') := fun hx => by
    obtain ⟨n, -, n2, n3, -⟩ := id hb
    unfold f_X11_ways_18 f_X12_ways_15
    rw [cl_0, n3, ← n2]
    by_cases h0 : ct = 0
    · rw [pbr_pos h0, pbr_pos h0]; exact ⟨_, _, _, _, _, rfl, rfl⟩
    · rw [pbr_neg h0, pbr_neg h0]
      obtain ⟨d, p, f, m, cN, m1, Z⟩ := sr_of h ht hb h0
      obtain ⟨times', t1, t2⟩ := meas_eq Z times
      obtain ⟨Wf, hW⟩ := ways_all Z t2
      obtain ⟨E, L, far', q⟩ := mways_loop Z.1 hW x1 48 0 FU 0 e0 l0 far (by omega) (by omega)
      have q' : f_X12_ways_31 md books tu told x1 FU 0 0 e0 l0 far = some (foldI (fun z X => X + if x1 = -1 ∨ x1 = nI z then Wf z else 0) 0 48 0, E, L, far') := q
      rw [m1, t1, pcl_some, q']
      rcases hx with e | ⟨a, ha, e⟩
      · subst e
        have k1 : f_X5_allWays (nI m) fd to fr cl dp lo hi times' = some (foldI (fun z X => X + Wf z) 0 48 0) := all_loop hW 48 0 FU 0 (by omega) (by omega)
        have k2 : (fun z X => X + if (-1 : Int32) = -1 ∨ (-1 : Int32) = nI z then Wf z else 0) = (fun z X => X + Wf z) := by
          funext z X
          rw [if_pos (Or.inl rfl)]
        rw [pbr_pos rfl, k1, pcl_some, k2]
        exact ⟨_, _, _, _, _, rfl, rfl⟩
      · subst e
        have h1 : ¬ nI a = -1 := fun q => by
          rw [i_eq, nI_int (by omega), show (-1 : Int32).toInt = -1 by decide] at q
          omega
        rw [pbr_neg h1, (hW a ha).1, pcl_some, foldI_one ha Wf 48 0 0 (by omega), if_pos (by omega), Int32.zero_add]
        exact ⟨_, _, _, _, _, rfl, rfl⟩
  unfold f_X11_ways f_X12_ways
  by_cases e : x1 = -1
  · rw [pbr_pos e, pbr_pos e]; exact main (Or.inl e)
  · rw [pbr_neg e, pbr_neg e]
    rcases sea_cases h x1 with ⟨q1, q2⟩ | ⟨g, dd, hg, eg, -, -, -, q1, q2⟩
    · rw [q1, q2, pcl_some, pcl_some, pbr_pos rfl, pbr_pos rfl]
      exact ⟨_, _, _, _, _, rfl, rfl⟩
    · rw [q1, q2, pcl_some, pcl_some, pbr_neg (show ¬ (1 : Int32) = 0 by decide), pbr_neg (show ¬ (1 : Int32) = 0 by decide)]
      exact main (Or.inr ⟨g, hg, eg⟩)
end SRCH2
