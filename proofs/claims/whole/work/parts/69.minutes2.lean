/-- the least of a row over a set -/
def LsI (row : A32) (M : Nat → Bool) (i : Nat) (x : Int32) : Prop := (x = -9 ∧ ∀ c, c < i → M c = true → row c = -9) ∨ ∃ k c, c < i ∧ M c = true ∧ row c = nI k ∧ k ≤ 300000 ∧ x = nI k ∧ ∀ c', c' < i → M c' = true → row c' = -9 ∨ ∃ q, row c' = nI q ∧ k ≤ q ∧ q ≤ 300000
theorem least_eq {A B : Nat} (hA : A < 16777216) (hB : B < 16777216) (pc : Int32) (dp : A32) (x1 : Int32) {row : A32} (hr : ∀ c, c < 48 → row c = -9 ∨ ∃ k, k ≤ 300000 ∧ row c = nI k) : ∃ x, f_X4_soonest_16 pc dp x1 (((nI B).toInt64 <<< ((24 : Int32).toInt64 &&& 63)) ||| (nI A).toInt64) FU (-9) 0 row = some (x, row) ∧ LsI row (mb A B) 48 x := by
  have hFU := FU_big
  have key := loop_ex (fun fu i (x : Int32) => f_X4_soonest_16 pc dp x1 (((nI B).toInt64 <<< ((24 : Int32).toInt64 &&& 63)) ||| (nI A).toInt64) fu x i row) (fun i x => LsI row (mb A B) i x) 48 (fun fu i x hi hI => ?_) 48 0 FU (-9) (by omega) (by omega) (Or.inl ⟨rfl, fun c hc => absurd hc (by omega)⟩)
  · obtain ⟨x, k, h1, h2, h3⟩ := key
    refine ⟨x, h3.trans ?_, h1⟩
    show f_X4_soonest_16 pc dp x1 (((nI B).toInt64 <<< ((24 : Int32).toInt64 &&& 63)) ||| (nI A).toInt64) (k + 1) x (nI 48) row = _
    rw [f_X4_soonest_16, pbr_pos (show (48 : Int32) ≤ nI 48 by decide)]
  · have hbit := set_bit hA hB hi
    have grow : (mb A B i = false ∨ row i = -9) → LsI row (mb A B) (i + 1) x := fun h => by
      rcases hI with ⟨a, b⟩ | ⟨k, c, a1, a2, a3, a4, a5, a6⟩
      · refine Or.inl ⟨a, fun c hc hm => ?_⟩
        by_cases q : c = i
        · subst q
          rcases h with h | h
          · rw [h] at hm; exact nomatch hm
          · exact h
        · exact b c (by omega) hm
      · refine Or.inr ⟨k, c, by omega, a2, a3, a4, a5, fun c' hc hm => ?_⟩
        by_cases q : c' = i
        · subst q
          rcases h with h | h
          · rw [h] at hm; exact nomatch hm
          · exact Or.inl h
        · exact a6 c' (by omega) hm
    show ∃ s', LsI row (mb A B) (i + 1) s' ∧ f_X4_soonest_16 pc dp x1 (((nI B).toInt64 <<< ((24 : Int32).toInt64 &&& 63)) ||| (nI A).toInt64) (fu + 1) x (nI i) row = f_X4_soonest_16 pc dp x1 (((nI B).toInt64 <<< ((24 : Int32).toInt64 &&& 63)) ||| (nI A).toInt64) fu s' (nI (i + 1)) row
    rw [f_X4_soonest_16, pbr_neg (show ¬ (48 : Int32) ≤ nI i from le_f (a := 48) hi)]
    unfold f_X4_soonest_68
    simp only [pgd_pos (pin_nI hi (show 48 < 2147483648 by omega)), plt_eq, nI_1, nI_cl (show i < 2147483648 by omega)]
    by_cases g : mb A B i = false
    · rw [pbr_pos (hbit.mpr g)]
      exact ⟨x, grow (Or.inl g), rfl⟩
    · rw [pbr_neg (fun q => g (hbit.mp q))]
      have g' : mb A B i = true := by
        cases hz : mb A B i with
        | true => rfl
        | false => exact absurd hz g
      rcases hr i hi with z | ⟨k, k1, k2⟩
      · rw [pbr_pos z]
        exact ⟨x, grow (Or.inr z), rfl⟩
      · rw [k2, pbr_neg (nI_ne9 (by omega))]
        rcases hI with ⟨a, b⟩ | ⟨q, c, a1, a2, a3, a4, a5, a6⟩
        · rw [pbr_pos a]
          refine ⟨nI k, Or.inr ⟨k, i, by omega, g', k2, k1, rfl, fun c' hc hm => ?_⟩, rfl⟩
          by_cases e : c' = i
          · subst e; exact Or.inr ⟨k, k2, Nat.le_refl k, k1⟩
          · exact Or.inl (b c' (by omega) hm)
        · rw [a5, pbr_neg (nI_ne9 (by omega))]
          by_cases e : q ≤ k
          · rw [pbr_pos (le_t e)]
            refine ⟨nI q, Or.inr ⟨q, c, by omega, a2, a3, a4, rfl, fun c' hc hm => ?_⟩, rfl⟩
            by_cases z : c' = i
            · subst z; exact Or.inr ⟨k, k2, e, k1⟩
            · exact a6 c' (by omega) hm
          · rw [pbr_neg (le_f (by omega))]
            refine ⟨nI k, Or.inr ⟨k, i, by omega, g', k2, k1, rfl, fun c' hc hm => ?_⟩, rfl⟩
            by_cases z : c' = i
            · subst z; exact Or.inr ⟨k, k2, Nat.le_refl k, k1⟩
            · rcases a6 c' (by omega) hm with y | ⟨v, v1, v2, v3⟩
              · exact Or.inl y
              · exact Or.inr ⟨v, v1, by omega, v3⟩
/-- the model's start from a set -/
theorem mminutes {dp md : A32} {pc : Int32} {tu : A32} {d : Nat → Nat} {p : Nat} (H : OcOK dp md pc tu d p) {A B : Nat} (x1 : Int32) (far0 : A32) : ∃ far, RM far (V0 (fun c => (c < 48 ∧ mb A B c = true) ∧ 0 < d c)) ∧ f_X12_minutes_33 md tu x1 (nI A) (nI B) FU 0 far0 = pcl (f_X12_spread md far tu) (fun far_2 => pgd (pin x1 48) (pbr (far_2 x1.toNatClampNeg = 1000000) (some (-9, far_2)) (some (far_2 x1.toNatClampNeg, far_2)))) := by
  have key := loop_up (fun fu i (s : A32) => f_X12_minutes_33 md tu x1 (nI A) (nI B) fu i s) (fun i s => upd s i (encM (V0 (fun c => (c < 48 ∧ mb A B c = true) ∧ 0 < d c) i))) (fun s => pcl (f_X12_spread md s tu) (fun far_2 => pgd (pin x1 48) (pbr (far_2 x1.toNatClampNeg = 1000000) (some (-9, far_2)) (some (far_2 x1.toNatClampNeg, far_2))))) (fun i s => ∀ j, j < i → s j = encM (V0 (fun c => (c < 48 ∧ mb A B c = true) ∧ 0 < d c) j)) 48 (by omega) (fun fu s _ => ?_) (fun fu i s hi hs => ⟨?_, fun j hj => ?_⟩) far0 (fun j hj => absurd hj (by omega))
  · exact ⟨_, key.2, key.1⟩
  · show f_X12_minutes_33 md tu x1 (nI A) (nI B) (fu + 1) (nI 48) s = _
    rw [f_X12_minutes_33, pbr_pos (show (48 : Int32) ≤ nI 48 by decide)]
  · show f_X12_minutes_33 md tu x1 (nI A) (nI B) (fu + 1) (nI i) s = f_X12_minutes_33 md tu x1 (nI A) (nI B) fu (nI (i + 1)) (upd s i (encM (V0 (fun c => (c < 48 ∧ mb A B c = true) ∧ 0 < d c) i)))
    obtain ⟨d1, -, d2⟩ := H.1 i hi
    have st : ∀ z : Int32, (z = 1 ↔ mb A B i = true) → f_X12_minutes_65 (f_X12_minutes_33 md tu x1 (nI A) (nI B) fu) md tu x1 (nI A) (nI B) (nI i) z s = f_X12_minutes_33 md tu x1 (nI A) (nI B) fu (nI (i + 1)) (upd s i (encM (V0 (fun c => (c < 48 ∧ mb A B c = true) ∧ 0 < d c) i))) := fun z hz => by
      unfold f_X12_minutes_65 f_X12_minutes_93 V0
      simp only [pgd_pos (pin_nI hi (show 48 < 2147483648 by omega)), pgd_pos (pin_nI (show i < 96 by omega) (show 96 < 2147483648 by omega)), nI_cl (show i < 2147483648 by omega), d2, plt_eq, nI_1]
      by_cases g : mb A B i = true
      · rw [pbr_pos (hz.mpr g)]
        by_cases e : 0 < d i
        · rw [pbr_neg (show ¬ nI (d i) ≤ 0 from le_f (b := 0) e), if_pos ⟨⟨hi, g⟩, e⟩]; rfl
        · rw [pbr_pos (show nI (d i) ≤ 0 from le_t (b := 0) (by omega)), if_neg (fun q => e q.2)]; rfl
      · rw [pbr_neg (fun q => g (hz.mp q)), if_neg (fun q => g q.1.2)]; rfl
    rw [f_X12_minutes_33, pbr_neg (show ¬ (48 : Int32) ≤ nI i from le_f (a := 48) hi)]
    by_cases g : i < 24
    · rw [pbr_neg (show ¬ (24 : Int32) ≤ nI i from le_f (a := 24) g)]
      refine st _ ?_
      rw [bit_t _ (by omega), bt_nI (by omega)]
      unfold mb
      rw [if_pos g]
    · rw [pbr_pos (show (24 : Int32) ≤ nI i from le_t (a := 24) (by omega)), show nI i - 24 = nI (i - 24) from nI_sub (b := 24) (by omega)]
      refine st _ ?_
      rw [bit_t _ (by omega), bt_nI (by omega)]
      unfold mb
      rw [if_neg g]
  · by_cases q : j = i
    · subst q; exact upd_s _ _ _
    · rw [upd_n q]; exact hs j (by omega)
theorem PP_start {sea : Nat → Prop} {w : Nat → Nat} {n a b k : Nat} (h : PP sea w n a b k) : a < 48 ∧ sea a := by
  cases n with
  | zero => exact ⟨h.2.1, h.2.2.1⟩
  | succ n =>
    obtain ⟨u, q, h1, -, h2, -⟩ := PP_split h
    exact ⟨h1, h2⟩
theorem op_minutes {dp md : A32} (h : RDp dp md) {pc fd yn : Int32} {tu : A32} (ht : RTu pc fd yn tu) (ti far : A32) (x1 x2 x3 : Int32) : ∃ r ti' far', f_X11_minutes x1 x2 x3 pc dp ti = some (r, ti') ∧ f_X12_minutes x1 x2 x3 md far tu = some (r, far') := by
  obtain ⟨d, p, H, h9⟩ := oc_all h ht
  unfold f_X11_minutes f_X12_minutes f_X4_soonest
  rcases sea_cases h x1 with ⟨q1, q2⟩ | ⟨g, dd, hg, rfl, -, -, -, q1, q2⟩
  · rw [q1, q2, pcl_some, pcl_some, pbr_pos rfl, pbr_pos rfl]
    exact ⟨_, _, _, rfl, rfl⟩
  rw [q1, q2, pcl_some, pcl_some, pbr_neg (show ¬ (1 : Int32) = 0 by decide), pbr_neg (show ¬ (1 : Int32) = 0 by decide)]
  simp only [within_eq, in_eq, pcl_some, pbr_bI]
  by_cases c1 : 0 ≤ x2 ∧ x2 ≤ 16777215
  case neg =>
    rw [pbr_neg c1, pbr_neg c1]; exact ⟨_, _, _, rfl, rfl⟩
  rw [pbr_pos c1, pbr_pos c1]
  obtain ⟨A, -, hA, rfl⟩ := of_span (a := 0) (b := 16777215) (by omega) (by omega) c1.1 c1.2
  by_cases c2 : 0 ≤ x3 ∧ x3 ≤ 16777215
  case neg =>
    rw [pbr_neg c2, pbr_neg c2]; exact ⟨_, _, _, rfl, rfl⟩
  rw [pbr_pos c2, pbr_pos c2]
  obtain ⟨B, -, hB, rfl⟩ := of_span (a := 0) (b := 16777215) (by omega) (by omega) c2.1 c2.2
  obtain ⟨row, r1, r2⟩ := row_dist H h9 hg ti
  obtain ⟨x, l1, l2⟩ := least_eq (show A < 16777216 by omega) (show B < 16777216 by omega) pc dp (nI g) (row := row) (fun c hc => (r2 c hc).imp (fun z => z.1) (fun ⟨k, k1, k2, _⟩ => ⟨k, k1, k2⟩))
  obtain ⟨f0, m1, m2⟩ := mminutes H (A := A) (B := B) (nI g) far
  obtain ⟨far', s1, s2⟩ := spread_eq H h9 (S := fun c => (c < 48 ∧ mb A B c = true) ∧ 0 < d c) (fun c hc => ⟨hc.1.1, hc.2⟩) m1
  rw [r1, pcl_some, l1, pcl_some, m2, s1, pcl_some, pgd_pos (pin_nI hg (by omega)), nI_cl (by omega)]
  rcases s2 g hg with ⟨e1, e2⟩ | ⟨k, k1, e1, ⟨a, n, a1, a2⟩, e2⟩
  · rw [e1, pbr_pos rfl]
    rcases l2 with ⟨rfl, -⟩ | ⟨k, c, b1, b2, b3, b4, b5, -⟩
    · exact ⟨_, _, _, rfl, rfl⟩
    · exfalso
      rcases r2 c b1 with ⟨z, -⟩ | ⟨q, -, -, ⟨n, hn⟩, -⟩
      · rw [z] at b3; exact nI_ne9 (by omega) b3.symm
      · exact e2 c n q ⟨⟨b1, b2⟩, (PP_start hn).2⟩ hn
  · rw [e1, pbr_neg (show ¬ nI k = 1000000 from eq_f (b := 1000000) (by omega))]
    rcases l2 with ⟨-, b⟩ | ⟨q, c, b1, b2, b3, b4, b5, b6⟩
    · exfalso
      rcases r2 a a1.1.1 with ⟨-, z⟩ | ⟨q, q1, q2, -⟩
      · exact z n k a2
      · rw [b a a1.1.1 a1.1.2] at q2; exact nI_ne9 (by omega) q2.symm
    · refine ⟨_, _, far', rfl, ?_⟩
      have h1 : q ≤ k := by
        rcases r2 a a1.1.1 with ⟨-, z⟩ | ⟨v, v1, v2, v3⟩
        · exact absurd a2 (z n k)
        · rcases b6 a a1.1.1 a1.1.2 with y | ⟨u, u1, u2, u3⟩
          · rw [y] at v2; exact absurd v2.symm (nI_ne9 (by omega))
          · have e : v ≤ k := v3.2 n k a2
            have : u = v := (nI_eq_iff (by omega) (by omega)).mp (u1.symm.trans v2)
            omega
      have h2 : k ≤ q := by
        rcases r2 c b1 with ⟨z, -⟩ | ⟨v, v1, v2, ⟨m, hm⟩, -⟩
        · rw [z] at b3; exact absurd b3.symm (nI_ne9 (by omega))
        · have e : v = q := (nI_eq_iff (by omega) (by omega)).mp (v2.symm.trans b3)
          subst e
          exact e2 c m v ⟨⟨b1, b2⟩, (PP_start hm).2⟩ hm
      rw [b5, show q = k by omega]
