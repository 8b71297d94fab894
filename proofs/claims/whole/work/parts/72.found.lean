/-! ===== the model's search: the hours ===== -/
theorem mx_ge (E v : Int32) : E.toInt ≤ (if E < v then v else E).toInt ∧ v.toInt ≤ (if E < v then v else E).toInt := by
  by_cases h : E < v
  · rw [if_pos h]; rw [i_lt] at h; omega
  · rw [if_neg h]; rw [i_lt] at h; omega
theorem mn_le (L v : Int32) : (if v < L then v else L).toInt ≤ L.toInt ∧ (if v < L then v else L).toInt ≤ v.toInt := by
  by_cases h : v < L
  · rw [if_pos h]; rw [i_lt] at h; omega
  · rw [if_neg h]; rw [i_lt] at h; omega
theorem fb_end (R : Int32 → Int32 → Int32 → Option (Int32 × Int32)) (bk tl fa tu md : A32) (x1 x2 x5 z0 E L : Int32) : f_X12_findBegins_139 R bk tl fa tu md x1 x2 x5 z0 E L = R (x2 + 1) (if E < x5 then x5 else E) (if z0 < L then z0 else L) := by
  unfold f_X12_findBegins_139 f_X12_findBegins_160
  simp only [plt_eq]
  by_cases h1 : x5 ≤ E
  · have e1 : ¬ E < x5 := fun q => by rw [i_lt] at q; rw [i_le] at h1; omega
    rw [pbr_pos h1, if_neg e1]
    by_cases h2 : L ≤ z0
    · have e2 : ¬ z0 < L := fun q => by rw [i_lt] at q; rw [i_le] at h2; omega
      rw [pbr_pos h2, if_neg e2]
    · have e2 : z0 < L := by rw [i_lt]; rw [i_le] at h2; omega
      rw [pbr_neg h2, if_pos e2]
  · have e1 : E < x5 := by rw [i_lt]; rw [i_le] at h1; omega
    rw [pbr_neg h1, if_pos e1]
    by_cases h2 : L ≤ z0
    · have e2 : ¬ z0 < L := fun q => by rw [i_lt] at q; rw [i_le] at h2; omega
      rw [pbr_pos h2, if_neg e2]
    · have e2 : z0 < L := by rw [i_lt]; rw [i_le] at h2; omega
      rw [pbr_neg h2, if_pos e2]
theorem fb_no (R : Int32 → Int32 → Int32 → Option (Int32 × Int32)) (bk tl fa tu md : A32) (x1 x2 x3 E L : Int32) : f_X12_findBegins_80 R bk tl fa tu md x1 x2 x3 E L = R (x2 + 1) (if E < 1000000 then 1000000 else E) (if (-1000000 : Int32) < L then -1000000 else L) := by
  unfold f_X12_findBegins_80 f_X12_findBegins_81 f_X12_findBegins_110
  rw [pbr_pos rfl, pbr_pos rfl, fb_end]
theorem fb_yes (R : Int32 → Int32 → Int32 → Option (Int32 × Int32)) (bk tl fa tu md : A32) (x1 E L : Int32) {i c : Nat} (hi : i < 6) (hc : c < 48) : f_X12_findBegins_81 R bk tl fa tu md x1 (nI i) (nI c) 1 E L = R (nI i + 1) (if E < tl (5 * i + 1) - fa c then tl (5 * i + 1) - fa c else E) (if tl (5 * i + 2) - fa c < L then tl (5 * i + 2) - fa c else L) := by
  have e5 : (5 : Int32) * nI i = nI (5 * i) := nI_mul 5 i
  have e1 : nI (5 * i) + 1 = nI (5 * i + 1) := nI_add (5 * i) 1
  have e2 : nI (5 * i) + 2 = nI (5 * i + 2) := nI_add (5 * i) 2
  unfold f_X12_findBegins_81 f_X12_findBegins_110
  rw [e5, e1, e2]
  rw [pbr_neg (show ¬ (1 : Int32) = 0 by decide), pgd_pos (pin_nI (by omega) (by omega)), pgd_pos (pin_nI hc (by omega)), pbr_neg (show ¬ (1 : Int32) = 0 by decide), pgd_pos (pin_nI (by omega) (by omega)), pgd_pos (pin_nI hc (by omega)), fb_end, nI_cl (by omega), nI_cl (by omega), nI_cl (by omega)]
theorem fb_loop {dp md : A32} {pc fd : Int32} {tu : A32} {d : Nat → Nat} {p f : Nat} (H : OcOK dp md pc tu d p) (hf : 1 ≤ f ∧ f ≤ 999 ∧ fd = nI f ∧ tu 1 = nI f) {cl fr to lo hi books told : A32} {n : Nat} {cN : Nat → Nat} (K : BkOK cl fr to lo hi books told n cN) {times : G32} {far : A32} {a : Nat} {t : Nat → Option Nat} (T : TmOK d n cN times far a t) {s : Nat} (hs : s ≤ 99) : ∀ (c i fu : Nat) (E L : Int32), i + c = n → c < fu → ∃ E' L', f_X12_findBegins_14 books told far tu md (nI s) fu (nI i) E L = some (E', L') ∧ ((∀ b, i ≤ b → b < n → fitB d f cN lo hi t s b) → E' = foldI (mxS (fun b => fr b - tI t b)) i c E ∧ L' = foldI (mnS (fun b => to b - tI t b)) i c L) ∧ ((¬ ∀ b, i ≤ b → b < n → fitB d f cN lo hi t s b) → 1000000 ≤ E'.toInt ∧ L'.toInt ≤ -1000000) ∧ E.toInt ≤ E'.toInt ∧ L'.toInt ≤ L.toInt
  | 0, i, fu, E, L, h, hfu => by
    obtain ⟨fu', rfl⟩ : ∃ f, fu = f + 1 := ⟨fu - 1, by omega⟩
    have K1 := K.1
    refine ⟨E, L, ?_, fun _ => ⟨rfl, rfl⟩, fun q => absurd (fun b h1 h2 => absurd h2 (by omega)) q, Int.le_refl _, Int.le_refl _⟩
    rw [f_X12_findBegins_14, cl_0, K.2.1, pbr_pos (le_t (by omega))]
  | c + 1, i, fu, E, L, h, hfu => by
    obtain ⟨fu', rfl⟩ : ∃ f, fu = f + 1 := ⟨fu - 1, by omega⟩
    have K1 := K.1
    have c6 : (1000000 : Int32).toInt = 1000000 := by decide
    have c7 : (-1000000 : Int32).toInt = -1000000 := by decide
    obtain ⟨b1, b2, b3, b4, b5, b6, b7, -, -⟩ := K.2.2 i (by omega)
    obtain ⟨t1, t2, t3⟩ := T.2 i (by omega)
    have e5 : (5 : Int32) * nI i = nI (5 * i) := nI_mul 5 i
    have e3 : nI (5 * i) + 3 = nI (5 * i + 3) := nI_add (5 * i) 3
    have e4 : nI (5 * i) + 4 = nI (5 * i + 4) := nI_add (5 * i) 4
    have no : ¬ fitB d f cN lo hi t s i → f_X12_findBegins_14 books told far tu md (nI s) (fu' + 1) (nI i) E L = f_X12_findBegins_80 (f_X12_findBegins_14 books told far tu md (nI s) fu') books told far tu md (nI s) (nI i) (nI (cN i)) E L → ∃ E' L', f_X12_findBegins_14 books told far tu md (nI s) (fu' + 1) (nI i) E L = some (E', L') ∧ ((∀ b, i ≤ b → b < n → fitB d f cN lo hi t s b) → E' = foldI (mxS (fun b => fr b - tI t b)) i (c + 1) E ∧ L' = foldI (mnS (fun b => to b - tI t b)) i (c + 1) L) ∧ ((¬ ∀ b, i ≤ b → b < n → fitB d f cN lo hi t s b) → 1000000 ≤ E'.toInt ∧ L'.toInt ≤ -1000000) ∧ E.toInt ≤ E'.toInt ∧ L'.toInt ≤ L.toInt := fun hno he => by
      rw [he, fb_no, nI_1]
      obtain ⟨E', L', q1, q2, q3, q4, q5⟩ := fb_loop H hf K T hs c (i + 1) fu' (if E < 1000000 then 1000000 else E) (if (-1000000 : Int32) < L then -1000000 else L) (by omega) (by omega)
      have m1 := mx_ge E 1000000
      have m2 := mn_le L (-1000000)
      rw [c6] at m1
      rw [c7] at m2
      exact ⟨E', L', q1, fun q => absurd (q i (Nat.le_refl i) (by omega)) hno, fun _ => ⟨by omega, by omega⟩, by omega, by omega⟩
    have open1 : f_X12_findBegins_14 books told far tu md (nI s) (fu' + 1) (nI i) E L = pbr ((1000000 : Int32) ≤ far (cN i)) (f_X12_findBegins_80 (f_X12_findBegins_14 books told far tu md (nI s) fu') books told far tu md (nI s) (nI i) (nI (cN i)) E L) (pcl (f_X12_heightAt (nI s) (nI (cN i)) tu far md) (fun r => pbr (lo i ≤ r ∧ r ≤ hi i) (f_X12_findBegins_81 (f_X12_findBegins_14 books told far tu md (nI s) fu') books told far tu md (nI s) (nI i) (nI (cN i)) 1 E L) (f_X12_findBegins_80 (f_X12_findBegins_14 books told far tu md (nI s) fu') books told far tu md (nI s) (nI i) (nI (cN i)) E L))) := by
      rw [f_X12_findBegins_14, cl_0, K.2.1, pbr_neg (le_f (by omega)), e5, pgd_pos (pin_nI (by omega) (by omega)), plt_eq, nI_cl (by omega), b3, pgd_pos (pin_nI b1 (by omega)), nI_cl (by omega), e3, e4]
      simp only [in_eq, pcl_some, pbr_bI, pgd_pos (pin_nI (show 5 * i + 3 < 90 by omega) (by omega)), pgd_pos (pin_nI (show 5 * i + 4 < 90 by omega) (by omega)), nI_cl (show 5 * i + 3 < 2147483648 by omega), nI_cl (show 5 * i + 4 < 2147483648 by omega), b6, b7]
    cases hv : t i with
    | none =>
      refine no (fun ⟨k, k1, _⟩ => by rw [hv] at k1; exact nomatch k1) ?_
      rw [open1, t2, hv, pbr_pos (show (1000000 : Int32) ≤ encM none from by decide)]
    | some k =>
      obtain ⟨k1, k2⟩ := t3 k hv
      have hfar : far (cN i) = nI k := by rw [t2, hv]; rfl
      obtain ⟨g1, -, g2⟩ := hgt_eq H hf b1 k1 hs k2 hfar
      rw [hfar, pbr_neg (show ¬ (1000000 : Int32) ≤ nI k from le_f (a := 1000000) (by omega)), g2, pcl_some] at open1
      by_cases e : lo i ≤ nI (hN d f k s (cN i)) ∧ nI (hN d f k s (cN i)) ≤ hi i
      · rw [pbr_pos e, fb_yes _ _ _ _ _ _ _ _ _ (by omega) b1, nI_1, ← b4, ← b5, hfar] at open1
        have et : tI t i = nI k := by unfold tI; rw [hv]
        rw [open1]
        obtain ⟨E', L', q1, q2, q3, q4, q5⟩ := fb_loop H hf K T hs c (i + 1) fu' (if E < fr i - nI k then fr i - nI k else E) (if to i - nI k < L then to i - nI k else L) (by omega) (by omega)
        have m1 := mx_ge E (fr i - nI k)
        have m2 := mn_le L (to i - nI k)
        refine ⟨E', L', q1, fun q => ?_, fun q => q3 (fun z => q (fun b h1 h2 => ?_)), by omega, by omega⟩
        · obtain ⟨z1, z2⟩ := q2 (fun b h1 h2 => q b (by omega) h2)
          rw [← et] at z1 z2
          exact ⟨z1, z2⟩
        · by_cases g : b = i
          · subst g; exact ⟨k, hv, e.1, e.2⟩
          · exact z b (by omega) h2
      · rw [pbr_neg e] at open1
        refine no (fun ⟨j, j1, j2, j3⟩ => ?_) open1
        rw [hv] at j1
        have := Option.some.inj j1
        subst this
        exact e ⟨j2, j3⟩
/-- all that a search stands on -/
def SR (dp md : A32) (pc fd : Int32) (tu : A32) (d : Nat → Nat) (p f : Nat) (cl fr to lo hi books told : A32) (n : Nat) (cN : Nat → Nat) : Prop := OcOK dp md pc tu d p ∧ (∀ c, d c ≤ 9) ∧ (1 ≤ f ∧ f ≤ 999 ∧ fd = nI f ∧ tu 1 = nI f) ∧ BkOK cl fr to lo hi books told n cN ∧ 1 ≤ n
section SRCH
variable {dp md : A32} {pc fd : Int32} {tu : A32} {d : Nat → Nat} {p f : Nat} {cl fr to lo hi books told : A32} {n : Nat} {cN : Nat → Nat} {times : G32} {far : A32} {a : Nat} {t : Nat → Option Nat}
theorem fit_come {s : Nat} (h : fitA d f cN lo hi t n s) : come t n := fun b hb => by
  obtain ⟨k, k1, -⟩ := h b hb
  exact ⟨k, k1⟩
theorem mbeg (Z : SR dp md pc fd tu d p f cl fr to lo hi books told n cN) (T : TmOK d n cN times far a t) {s : Nat} (hs : s ≤ 99) (e0 l0 : Int32) : (fitA d f cN lo hi t n s → f_X12_beginsOf (nI s) e0 l0 books told far tu md = some (r1 fr to t n, eC fr t n, lC to t n)) ∧ (¬ fitA d f cN lo hi t n s → ∃ E L, f_X12_beginsOf (nI s) e0 l0 books told far tu md = some (0, E, L)) := by
  obtain ⟨H, h9, hf, K, hn⟩ := Z
  have hFU := FU_big
  have K1 := K.1
  obtain ⟨E, L, q1, q2, q3, -, -⟩ := fb_loop H hf K T hs n 0 FU (-1000000) 1000000 (by omega) (by omega)
  have q1' : f_X12_findBegins_14 books told far tu md (nI s) FU 0 (-1000000) 1000000 = some (E, L) := q1
  have op : f_X12_beginsOf (nI s) e0 l0 books told far tu md = pbr (E ≤ L) (some (L - E + 1, E, L)) (some (0, E, L)) := by
    unfold f_X12_beginsOf f_X12_findBegins
    rw [q1', pcl_some]
  refine ⟨fun hA => ?_, fun hA => ?_⟩
  · have hc := fit_come hA
    have h0 := vb K T hc (show 0 < n by omega)
    obtain ⟨z1, z2⟩ := q2 (fun b _ hb => hA b hb)
    have c7 : (-1000000 : Int32).toInt = -1000000 := by decide
    have c6 : (1000000 : Int32).toInt = 1000000 := by decide
    have w1 : E = eC fr t n := by
      rw [z1]
      obtain ⟨j, rfl⟩ : ∃ j, n = j + 1 := ⟨n - 1, by omega⟩
      show foldI _ 1 j (mxS _ 0 (-1000000)) = foldI _ 1 (j + 1 - 1) _
      rw [show j + 1 - 1 = j by omega]
      congr 1
      unfold mxS
      exact if_pos (by rw [i_lt, c7]; dsimp only; omega)
    have w2 : L = lC to t n := by
      rw [z2]
      obtain ⟨j, rfl⟩ : ∃ j, n = j + 1 := ⟨n - 1, by omega⟩
      show foldI _ 1 j (mnS _ 0 1000000) = foldI _ 1 (j + 1 - 1) _
      rw [show j + 1 - 1 = j by omega]
      congr 1
      unfold mnS
      exact if_pos (by rw [i_lt, c6]; dsimp only; omega)
    rw [op, w1, w2]
    unfold r1
    by_cases g : eC fr t n ≤ lC to t n
    · rw [pbr_pos g, if_pos g]
    · rw [pbr_neg g, if_neg g]
  · obtain ⟨z1, z2⟩ := q3 (fun q => hA (fun b hb => q b (by omega) hb))
    refine ⟨E, L, ?_⟩
    rw [op, pbr_neg (fun q => by rw [i_le] at q; omega)]
theorem hfit (Z : SR dp md pc fd tu d p f cl fr to lo hi books told n cN) (T : TmOK d n cN times far a t) {s : Nat} (hs : s ≤ 99) : (fitA d f cN lo hi t n s → f_X5_heightsFit (nI a) (nI s) (nI n) cl fd dp lo hi times = some 1) ∧ (¬ fitA d f cN lo hi t n s → f_X5_heightsFit (nI a) (nI s) (nI n) cl fd dp lo hi times = some 0) := by
  obtain ⟨H, h9, hf, K, hn⟩ := Z
  have hFU := FU_big
  have K1 := K.1
  rcases fits_eq H hf K T hs n 0 FU (by omega) (by omega) with ⟨q1, q2⟩ | ⟨q1, q2⟩
  · exact ⟨fun _ => q2, fun q => absurd (fun b hb => q1 b (by omega) hb) q⟩
  · exact ⟨fun q => absurd (fun b _ hb => q b hb) q1, fun _ => q2⟩
/-- one beginning's cell, one size: both sides -/
theorem both_begins (Z : SR dp md pc fd tu d p f cl fr to lo hi books told n cN) (T : TmOK d n cN times far a t) {s : Nat} (hs : s ≤ 99) (e0 l0 : Int32) : ∃ r E L, f_X5_beginsOf (nI a) (nI s) (nI n) fd cl dp lo hi to fr times = some r ∧ f_X12_beginsOf (nI s) e0 l0 books told far tu md = some (r, E, L) := by
  obtain ⟨m1, m2⟩ := mbeg Z T hs e0 l0
  obtain ⟨f1, f2⟩ := hfit Z T hs
  obtain ⟨H, h9, hf, K, hn⟩ := Z
  unfold f_X5_beginsOf
  by_cases g : fitA d f cN lo hi t n s
  · rw [f1 g, m1 g, pcl_some, pbr_neg (show ¬ (1 : Int32) = 0 by decide)]
    rcases byHours_eq K hn T with ⟨-, z⟩ | ⟨z, -⟩
    · rw [z, pcl_some]; exact ⟨_, _, _, rfl, rfl⟩
    · exact absurd (fit_come g) z
  · obtain ⟨E, L, q⟩ := m2 g
    rw [f2 g, q, pcl_some, pbr_pos rfl]
    exact ⟨_, _, _, rfl, rfl⟩
/-- the rows of times -/
def RowsOK (d : Nat → Nat) (p n : Nat) (cN : Nat → Nat) (times : G32) : Prop := ∀ b, b < n → ∀ c, c < 48 → (times b c = -9 ∧ ∀ m k, ¬ PP (seaN d) (wN d p) m c (cN b) k) ∨ ∃ k, k ≤ 300000 ∧ times b c = nI k ∧ Dist (seaN d) (wN d p) c (cN b) k
def FarOK (d : Nat → Nat) (p a : Nat) (far : A32) : Prop := ∀ b, b < 48 → (far b = 1000000 ∧ ∀ n k, ¬ PP (seaN d) (wN d p) n a b k) ∨ ∃ k, k ≤ 300000 ∧ far b = nI k ∧ Dist (seaN d) (wN d p) a b k
def tOf (times : G32) (a : Nat) : Nat → Option Nat := fun b => if times b a = -9 then none else some (times b a).toNatClampNeg
theorem tm_ok (K : BkOK cl fr to lo hi books told n cN) (R : RowsOK d p n cN times) (ha : a < 48) (F : FarOK d p a far) : TmOK d n cN times far a (tOf times a) := by
  refine ⟨ha, fun b hb => ?_⟩
  have hc := (K.2.2 b hb).1
  unfold tOf
  rcases R b hb a ha with ⟨e1, e2⟩ | ⟨k, k1, e1, e2⟩
  · rw [if_pos e1]
    refine ⟨e1, ?_, fun k hk => nomatch hk⟩
    rcases F (cN b) hc with ⟨g1, -⟩ | ⟨k, -, -, ⟨m, hm⟩, -⟩
    · exact g1
    · exact absurd hm (e2 m k)
  · rw [if_neg (show ¬ times b a = -9 from by rw [e1]; exact nI_ne9 (by omega)), e1, nI_cl (by omega)]
    refine ⟨rfl, ?_, fun j hj => ?_⟩
    · rcases F (cN b) hc with ⟨-, g2⟩ | ⟨j, j1, j2, j3⟩
      · obtain ⟨m, hm⟩ := e2.1
        exact absurd hm (g2 m k)
      · rw [j2, Dist_unique e2 j3]; rfl
    · have := Option.some.inj hj
      subst this
      obtain ⟨m, hm⟩ := e2.1
      exact ⟨k1, (PP_end hm).2⟩
theorem meas_eq (Z : SR dp md pc fd tu d p f cl fr to lo hi books told n cN) (t0 : G32) : ∃ times, f_X5_measure (nI n) cl pc dp t0 = some times ∧ RowsOK d p n cN times := by
  obtain ⟨H, h9, hf, K, hn⟩ := Z
  have hFU := FU_big
  have K1 := K.1
  have key := loop_ex (fun fu i (s : G32) => f_X5_measure_2 (nI n) cl pc dp fu i s) (fun i s => RowsOK d p i cN s) n (fun fu i s hi hI => ?_) n 0 FU t0 (by omega) (by omega) (fun b hb => absurd hb (by omega))
  · obtain ⟨s, k, h1, h2, h3⟩ := key
    refine ⟨s, h3.trans ?_, h1⟩
    show f_X5_measure_2 (nI n) cl pc dp (k + 1) (nI n) s = _
    rw [f_X5_measure_2, pbr_pos (le_t (by omega))]
  · obtain ⟨b1, b2, -⟩ := K.2.2 i hi
    obtain ⟨row, q1, q2⟩ := row_dist H h9 b1 (s i)
    refine ⟨upR s i row, fun b hb c hc => ?_, ?_⟩
    · unfold upR
      by_cases g : b = i
      · subst g; rw [if_pos rfl]; exact q2 c hc
      · rw [if_neg g]; exact hI b (by omega) c hc
    · show f_X5_measure_2 (nI n) cl pc dp (fu + 1) (nI i) s = f_X5_measure_2 (nI n) cl pc dp fu (nI (i + 1)) (upR s i row)
      rw [f_X5_measure_2, pbr_neg (le_f hi), pgd_pos (pin_nI (by omega) (by omega)), nI_cl (by omega), b2, q1, pcl_some, plt_eq, plt_eq, nI_1]
/-- what is told gives what a search stands on -/
theorem sr_of (h : RDp dp md) {yn ct : Int32} (ht : RTu pc fd yn tu) (hb : RBk 0 cl fr to lo hi ct books told) (h0 : ¬ ct = 0) : ∃ d p f n cN, ct = nI n ∧ SR dp md pc fd tu d p f cl fr to lo hi books told n cN := by
  obtain ⟨d, p, H, h9⟩ := oc_all h ht
  obtain ⟨-, ⟨f, f1, f2, f3, f4⟩, -⟩ := ht
  obtain ⟨n, n1, K⟩ := hb.ok
  refine ⟨d, p, f, n, _, n1, H, h9, ⟨f1, f2, f3, f4⟩, K, ?_⟩
  rcases Nat.eq_zero_or_pos n with e | e
  · subst e; exact absurd n1 h0
  · exact e
theorem op_begins (h : RDp dp md) {yn ct : Int32} (ht : RTu pc fd yn tu) (hb : RBk 0 cl fr to lo hi ct books told) (times : G32) (far : A32) (e0 l0 x1 x2 : Int32) : ∃ r times' E L far', f_X11_begins x1 x2 pc fd dp ct cl lo hi to fr times = some (r, times') ∧ f_X12_begins x1 x2 e0 l0 md far tu books told = some (r, E, L, far') := by
  unfold f_X11_begins f_X12_begins
  rcases sea_cases h x1 with ⟨q1, q2⟩ | ⟨g, dd, hg, rfl, -, -, -, q1, q2⟩
  · rw [q1, q2, pcl_some, pcl_some, pbr_pos rfl, pbr_pos rfl]
    exact ⟨_, _, _, _, _, rfl, rfl⟩
  rw [q1, q2, pcl_some, pcl_some, pbr_neg (show ¬ (1 : Int32) = 0 by decide), pbr_neg (show ¬ (1 : Int32) = 0 by decide)]
  simp only [isSize_eq, in_eq, pcl_some, pbr_bI]
  by_cases c1 : 1 ≤ x2 ∧ x2 ≤ 99
  case neg =>
    rw [pbr_neg c1, pbr_neg c1]; exact ⟨_, _, _, _, _, rfl, rfl⟩
  rw [pbr_pos c1, pbr_pos c1]
  obtain ⟨s, -, hs, rfl⟩ := of_span (a := 1) (b := 99) (by omega) (by omega) c1.1 c1.2
  obtain ⟨n, -, n2, n3, -⟩ := id hb
  by_cases h0 : ct = 0
  · obtain ⟨d, p, H, h9⟩ := oc_all h ht
    obtain ⟨far', f1, -⟩ := begin_eq H h9 hg far
    rw [f1, pcl_some, cl_0, n3, ← n2, pbr_pos h0, pbr_pos h0]
    exact ⟨_, _, _, _, _, rfl, rfl⟩
  · obtain ⟨d, p, f, m, cN, m1, Z⟩ := sr_of h ht hb h0
    obtain ⟨far', f1, f2⟩ := begin_eq Z.1 Z.2.1 hg far
    obtain ⟨times', t1, t2⟩ := meas_eq Z times
    have T := tm_ok Z.2.2.2.1 t2 hg f2
    obtain ⟨r, E, L, g1, g2⟩ := both_begins Z T hs e0 l0
    rw [f1, pcl_some, cl_0, n3, ← n2, pbr_neg h0, pbr_neg h0, m1, t1, pcl_some, g1, g2, pcl_some, pcl_some]
    exact ⟨_, _, _, _, _, rfl, rfl⟩
end SRCH
