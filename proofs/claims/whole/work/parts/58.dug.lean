/-! ===== dug ===== -/
def gcF (b : Nat → Nat) (n : Nat) : Nat := fold (fun i a => Nat.gcd a (b i)) n 0
theorem gcd_le2 {a b k : Nat} (h1 : a ≤ k) (h2 : b ≤ k) : Nat.gcd a b ≤ k := by
  rcases Nat.eq_zero_or_pos a with e | e
  · rw [e, Nat.gcd_zero_left]; exact h2
  · exact Nat.le_trans (Nat.gcd_le_left b e) h1
theorem gcF_le {b : Nat → Nat} {k : Nat} : ∀ {n : Nat}, (∀ i, i < n → b i ≤ k) → gcF b n ≤ k
  | 0, _ => Nat.zero_le _
  | n + 1, h => gcd_le2 (gcF_le (fun i hi => h i (by omega))) (h n (by omega))
/-- what the class has weighed -/
theorem weigh1 {wt weight : A64} {W : Nat → Nat} (H : WtOK wt weight W) {ch : G32} {chance : A32} {C : Nat → Nat → Nat} (K : ChOK ch chance C) {m : Nat} (hm : m < 6) (x : Int32) (bh : A64) : ∃ b : A64, (∀ j, j < 5 → b j = lN (wB W C m x j)) ∧ f_X8_weigh (nI m) x wt bh ch = pbr (lN (gcF (wB W C m x) 5) = 0) (some (-2, b)) (f_X8_weigh_56 wt ch (nI m) x FU (lN (gcF (wB W C m x) 5)) 0 b) := by
  have key := loop_up (fun fu i (s : Nat × A64) => f_X8_weigh_5 wt ch (nI m) x fu (lN s.1) i s.2) (fun i s => (Nat.gcd s.1 (wB W C m x i), vp_updL s.2 i (lN (wB W C m x i)))) (fun s => pbr (lN s.1 = 0) (some (-2, s.2)) (f_X8_weigh_56 wt ch (nI m) x FU (lN s.1) 0 s.2)) (fun i s => s.1 ≤ 10000000000000 ∧ ∀ j, j < i → s.2 j = lN (wB W C m x j)) 5 (by omega) (fun fu s _ => ?_) (fun fu i s hi hs => ?_) (0, bh) ⟨Nat.zero_le _, fun j hj => absurd hj (by omega)⟩
  · have e : ∀ n, (fold (fun i (s : Nat × A64) => (Nat.gcd s.1 (wB W C m x i), vp_updL s.2 i (lN (wB W C m x i)))) n (0, bh)).1 = gcF (wB W C m x) n := fun n => by
      induction n with
      | zero => rfl
      | succ n ih =>
        show Nat.gcd _ _ = Nat.gcd (gcF (wB W C m x) n) (wB W C m x n)
        rw [ih]
    refine ⟨_, key.2.2, key.1.trans ?_⟩
    rw [e]
  · show f_X8_weigh_5 wt ch (nI m) x (fu + 1) (lN s.1) (nI 5) s.2 = _
    rw [f_X8_weigh_5, pbr_pos (show (5 : Int32) ≤ nI 5 by decide)]
    by_cases z : lN s.1 = 0
    · rw [pbr_pos z, pbr_pos ((lg_cmp_eq _ _).mpr z)]
    · rw [pbr_neg z, pbr_neg (fun q => z ((lg_cmp_eq _ _).mp q))]
  · obtain ⟨s1, s2⟩ := s
    obtain ⟨hs1, hs2⟩ := hs
    have hs1' : s1 ≤ 10000000000000 := hs1
    have hb := wB_le H K hm hi x
    refine ⟨?_, gcd_le2 hs1 hb, fun j hj => ?_⟩
    · show f_X8_weigh_5 wt ch (nI m) x (fu + 1) (lN s1) (nI i) s2 = f_X8_weigh_5 wt ch (nI m) x fu (lN (Nat.gcd s1 (wB W C m x i))) (nI (i + 1)) (vp_updL s2 i (lN (wB W C m x i)))
      rw [f_X8_weigh_5, pbr_neg (show ¬ (5 : Int32) ≤ nI i from le_f (a := 5) hi), wbehind_eq H K hm hi, pcl_some, pgd_pos (pin_nI (by omega) (by omega)), plt_eq, nI_cl (by omega), updL_s, comPart_eq (by omega) (by omega), pcl_some, plt_eq, nI_1]
    · show vp_updL s2 i (lN (wB W C m x i)) j = _
      by_cases q : j = i
      · subst q; exact updL_s _ _ _
      · rw [updL_n q]; exact hs2 j (by omega)
theorem mweigh1 {wt weight : A64} {W : Nat → Nat} (H : WtOK wt weight W) {ch : G32} {chance : A32} {C : Nat → Nat → Nat} (K : ChOK ch chance C) {m : Nat} (hm : m < 6) {x : Int32} (hx : x = 0 ∨ x = 1) (digs : A32) (dr : A64) : ∃ b : A64, (∀ j, j < 5 → b j = lN (wB W C m x j)) ∧ f_X12_dug_42 chance (nI m) x FU 0 0 digs weight dr = pbr (lN (gcF (wB W C m x) 5) = 0) (some (-2, digs, weight, b)) (f_X12_dug_123 chance (nI m) x FU (lN (gcF (wB W C m x) 5)) 0 digs weight b) := by
  have key := loop_up (fun fu i (s : Nat × A64) => f_X12_dug_42 chance (nI m) x fu (lN s.1) i digs weight s.2) (fun i s => (Nat.gcd s.1 (wB W C m x i), vp_updL s.2 i (lN (wB W C m x i)))) (fun s => pbr (lN s.1 = 0) (some (-2, digs, weight, s.2)) (f_X12_dug_123 chance (nI m) x FU (lN s.1) 0 digs weight s.2)) (fun i s => s.1 ≤ 10000000000000 ∧ ∀ j, j < i → s.2 j = lN (wB W C m x j)) 5 (by omega) (fun fu s _ => ?_) (fun fu i s hi hs => ?_) (0, dr) ⟨Nat.zero_le _, fun j hj => absurd hj (by omega)⟩
  · have e : ∀ n, (fold (fun i (s : Nat × A64) => (Nat.gcd s.1 (wB W C m x i), vp_updL s.2 i (lN (wB W C m x i)))) n (0, dr)).1 = gcF (wB W C m x) n := fun n => by
      induction n with
      | zero => rfl
      | succ n ih =>
        show Nat.gcd _ _ = Nat.gcd (gcF (wB W C m x) n) (wB W C m x n)
        rw [ih]
    refine ⟨_, key.2.2, key.1.trans ?_⟩
    rw [e]
  · show f_X12_dug_42 chance (nI m) x (fu + 1) (lN s.1) (nI 5) digs weight s.2 = _
    rw [f_X12_dug_42, pbr_pos (show (5 : Int32) ≤ nI 5 by decide)]
    by_cases z : lN s.1 = 0
    · rw [pbr_pos z, pbr_pos ((lg_cmp_eq _ _).mpr z)]
    · rw [pbr_neg z, pbr_neg (fun q => z ((lg_cmp_eq _ _).mp q))]
  · obtain ⟨s1, s2⟩ := s
    obtain ⟨hs1, hs2⟩ := hs
    have hs1' : s1 ≤ 10000000000000 := hs1
    have hb := wB_le H K hm hi x
    obtain ⟨c1, c2, c3⟩ := K i m hi hm
    refine ⟨?_, gcd_le2 hs1 hb, fun j hj => ?_⟩
    · show f_X12_dug_42 chance (nI m) x (fu + 1) (lN s1) (nI i) digs weight s2 = f_X12_dug_42 chance (nI m) x fu (lN (Nat.gcd s1 (wB W C m x i))) (nI (i + 1)) digs weight (vp_updL s2 i (lN (wB W C m x i)))
      have e6 : (6 : Int32) * nI i + nI m = nI (6 * i + m) := by rw [show (6 : Int32) = nI 6 from rfl, nI_mul, nI_add]
      have e10 : (10 : Int32) - nI (C i m) = nI (10 - C i m) := nI_sub (a := 10) c1
      rw [f_X12_dug_42, pbr_neg (show ¬ (5 : Int32) ≤ nI i from le_f (a := 5) hi)]
      simp only [e6]
      rw [pgd_pos (pin_nI (by omega) (by omega)), plt_eq, pgd_pos (pin_nI (by omega) (by omega))]
      simp only [nI_cl (show i < 2147483648 by omega), nI_cl (show 6 * i + m < 2147483648 by omega), (H i hi).2.2, c3, e10]
      have st : ∀ c, c ≤ 10 → W i * c = wB W C m x i → f_X12_dug_90 (f_X12_dug_42 chance (nI m) x fu) chance (nI m) x (lN s1) (nI i) (nI i) (lN (W i)) (nI c) digs weight s2 = f_X12_dug_42 chance (nI m) x fu (lN (Nat.gcd s1 (wB W C m x i))) (nI (i + 1)) digs weight (vp_updL s2 i (lN (wB W C m x i))) := fun c hc ec => by
        unfold f_X12_dug_90
        rw [pgd_pos (pin_nI (by omega) (by omega)), plt_eq, pgd_pos (pin_nI (by omega) (by omega)), nI_cl (by omega), nI_l (by omega), lN_mul, ec, updL_s, common_eq (by omega) (by omega), pcl_some, plt_eq, nI_1, Nat.gcd_comm]
      by_cases z : x = 1
      · rw [pbr_pos z]
        exact st _ c1 (by unfold wB; rw [if_pos z])
      · rw [pbr_neg z]
        exact st _ (by omega) (by unfold wB; rw [if_neg z])
    · show vp_updL s2 i (lN (wB W C m x i)) j = _
      by_cases q : j = i
      · subst q; exact updL_s _ _ _
      · rw [updL_n q]; exact hs2 j (by omega)
theorem lgT {v : Nat} (hv : v < 2 ^ 63) : (lg_cmp (lN v) 1000000000000 ≤ 0) ↔ v ≤ 1000000000000 := by
  rw [lg_cmp_le]
  exact pk_lLE (b := 1000000000000) hv (by omega)
theorem weigh2 {b : Nat → Nat} {G : Nat} (hG : 0 < G) (hG2 : G ≤ 10000000000000) (hb : ∀ i, i < 5 → b i ≤ 10000000000000) (wt : A64) (ch : G32) (x1 x2 : Int32) : ∀ (c i fu : Nat) (f : A64), i + c = 5 → c < fu → (∀ j, i ≤ j → j < 5 → f j = lN (b j)) → (∀ j, j < i → f j = lN (b j / G)) → ((∀ j, i ≤ j → j < 5 → b j / G ≤ 1000000000000) ∧ ∃ f', f_X8_weigh_56 wt ch x1 x2 fu (lN G) (nI i) f = some (-1, f') ∧ ∀ j, j < 5 → f' j = lN (b j / G)) ∨ ((¬ ∀ j, i ≤ j → j < 5 → b j / G ≤ 1000000000000) ∧ ∃ f', f_X8_weigh_56 wt ch x1 x2 fu (lN G) (nI i) f = some (-3, f'))
  | 0, i, fu, f, h, hf, h1, h2 => by
    obtain ⟨fu', rfl⟩ : ∃ f, fu = f + 1 := ⟨fu - 1, by omega⟩
    refine Or.inl ⟨fun j a b => absurd b (by omega), f, ?_, fun j hj => h2 j (by omega)⟩
    rw [f_X8_weigh_56, show i = 5 by omega, pbr_pos (show (5 : Int32) ≤ nI 5 by decide)]
  | c + 1, i, fu, f, h, hf, h1, h2 => by
    obtain ⟨fu', rfl⟩ : ∃ f, fu = f + 1 := ⟨fu - 1, by omega⟩
    have hbi := hb i (by omega)
    have hdl : b i / G ≤ b i := Nat.div_le_self _ _
    have st : f_X8_weigh_56 wt ch x1 x2 (fu' + 1) (lN G) (nI i) f = pbr (lg_cmp (lN (b i / G)) 1000000000000 ≤ 0) (f_X8_weigh_56 wt ch x1 x2 fu' (lN G) (nI (i + 1)) (vp_updL f i (lN (b i / G)))) (some (-3, vp_updL f i (lN (b i / G)))) := by
      rw [f_X8_weigh_56, pbr_neg (show ¬ (5 : Int32) ≤ nI i from le_f (a := 5) (by omega)), pgd_pos (pin_nI (by omega) (by omega)), pgd_pos (fun q => absurd ((lN0 (by omega)).mp q) (by omega)), plt_eq, nI_cl (by omega), h1 i (Nat.le_refl i) (by omega), pk_lDiv (by omega) hG (by omega), updL_s, plt_eq, nI_1]
    by_cases e : b i / G ≤ 1000000000000
    · rw [pbr_pos ((lgT (by omega)).mpr e)] at st
      rw [st]
      rcases weigh2 hG hG2 hb wt ch x1 x2 c (i + 1) fu' (vp_updL f i (lN (b i / G))) (by omega) (by omega) (fun j a b => by rw [updL_n (by omega)]; exact h1 j (by omega) b) (fun j hj => by
        by_cases q : j = i
        · subst q; exact updL_s _ _ _
        · rw [updL_n q]; exact h2 j (by omega)) with ⟨a1, a2⟩ | ⟨a1, a2⟩
      · refine Or.inl ⟨fun j p q => ?_, a2⟩
        by_cases z : j = i
        · subst z; exact e
        · exact a1 j (by omega) q
      · exact Or.inr ⟨fun q => a1 (fun j p r => q j (by omega) r), a2⟩
    · rw [pbr_neg (fun q => e ((lgT (by omega)).mp q))] at st
      exact Or.inr ⟨fun q => e (q i (Nat.le_refl i) (by omega)), _, st⟩
theorem mweigh2 {b : Nat → Nat} {G : Nat} (hG : 0 < G) (hG2 : G ≤ 10000000000000) (hb : ∀ i, i < 5 → b i ≤ 10000000000000) (chance : A32) (x1 x2 : Int32) (digs : A32) (weight f : A64) (h1 : ∀ j, j < 5 → f j = lN (b j)) : ∀ (c i fu : Nat), i + c = 5 → c < fu → ((∀ j, i ≤ j → j < 5 → b j / G ≤ 1000000000000) ∧ f_X12_dug_123 chance x1 x2 fu (lN G) (nI i) digs weight f = f_X12_dug_157 chance x1 x2 FU (lN G) 0 digs weight f) ∨ ((¬ ∀ j, i ≤ j → j < 5 → b j / G ≤ 1000000000000) ∧ f_X12_dug_123 chance x1 x2 fu (lN G) (nI i) digs weight f = some (-3, digs, weight, f))
  | 0, i, fu, h, hf => by
    obtain ⟨fu', rfl⟩ : ∃ f, fu = f + 1 := ⟨fu - 1, by omega⟩
    refine Or.inl ⟨fun j a b => absurd b (by omega), ?_⟩
    rw [f_X12_dug_123, show i = 5 by omega, pbr_pos (show (5 : Int32) ≤ nI 5 by decide)]
  | c + 1, i, fu, h, hf => by
    obtain ⟨fu', rfl⟩ : ∃ f, fu = f + 1 := ⟨fu - 1, by omega⟩
    have hbi := hb i (by omega)
    have hdl : b i / G ≤ b i := Nat.div_le_self _ _
    have st : f_X12_dug_123 chance x1 x2 (fu' + 1) (lN G) (nI i) digs weight f = pbr (lg_cmp (lN (b i / G)) 1000000000000 ≤ 0) (f_X12_dug_123 chance x1 x2 fu' (lN G) (nI (i + 1)) digs weight f) (some (-3, digs, weight, f)) := by
      rw [f_X12_dug_123, pbr_neg (show ¬ (5 : Int32) ≤ nI i from le_f (a := 5) (by omega)), pgd_pos (pin_nI (by omega) (by omega)), pgd_pos (fun q => absurd ((lN0 (by omega)).mp q) (by omega))]
      simp only [nI_cl (show i < 2147483648 by omega), h1 i (by omega), plt_eq, nI_1]
      rw [pk_lDiv (by omega) hG (by omega)]
    by_cases e : b i / G ≤ 1000000000000
    · rw [pbr_pos ((lgT (by omega)).mpr e)] at st
      rw [st]
      rcases mweigh2 hG hG2 hb chance x1 x2 digs weight f h1 c (i + 1) fu' (by omega) (by omega) with ⟨a1, a2⟩ | ⟨a1, a2⟩
      · refine Or.inl ⟨fun j p q => ?_, a2⟩
        by_cases z : j = i
        · subst z; exact e
        · exact a1 j (by omega) q
      · exact Or.inr ⟨fun q => a1 (fun j p r => q j (by omega) r), a2⟩
    · rw [pbr_neg (fun q => e ((lgT (by omega)).mp q))] at st
      exact Or.inr ⟨fun q => e (q i (Nat.le_refl i) (by omega)), st⟩
theorem mweigh3 {b : Nat → Nat} {G : Nat} (hG : 0 < G) (hG2 : G ≤ 10000000000000) (hb : ∀ i, i < 5 → b i ≤ 10000000000000) (chance : A32) (x1 x2 : Int32) (digs : A32) (weight f : A64) (h1 : ∀ j, j < 5 → f j = lN (b j)) : ∃ w' : A64, (∀ j, j < 5 → w' j = lN (b j / G)) ∧ (∀ j, 5 ≤ j → w' j = weight j) ∧ f_X12_dug_157 chance x1 x2 FU (lN G) 0 digs weight f = pcl (f_X12_bitsIn (digs 0 ||| (1 <<< (x1 &&& 31)))) (fun r => some (r, upd digs 0 (digs 0 ||| (1 <<< (x1 &&& 31))), w', f)) := by
  have key := loop_up (fun fu i (w : A64) => f_X12_dug_157 chance x1 x2 fu (lN G) i digs w f) (fun i w => vp_updL w i (lN (b i / G))) (fun w => pcl (f_X12_bitsIn (digs 0 ||| (1 <<< (x1 &&& 31)))) (fun r => some (r, upd digs 0 (digs 0 ||| (1 <<< (x1 &&& 31))), w, f))) (fun i w => (∀ j, j < i → w j = lN (b j / G)) ∧ ∀ j, i ≤ j → w j = weight j) 5 (by omega) (fun fu w _ => ?_) (fun fu i w hi hw => ⟨?_, fun j hj => ?_, fun j hj => ?_⟩) weight ⟨fun j hj => absurd hj (by omega), fun _ _ => rfl⟩
  · exact ⟨_, key.2.1, key.2.2, key.1⟩
  · show f_X12_dug_157 chance x1 x2 (fu + 1) (lN G) (nI 5) digs w f = _
    rw [f_X12_dug_157, pbr_pos (show (5 : Int32) ≤ nI 5 by decide), plt_eq, cl_0, upd_s]
  · show f_X12_dug_157 chance x1 x2 (fu + 1) (lN G) (nI i) digs w f = f_X12_dug_157 chance x1 x2 fu (lN G) (nI (i + 1)) digs (vp_updL w i (lN (b i / G))) f
    have hbi := hb i hi
    rw [f_X12_dug_157, pbr_neg (show ¬ (5 : Int32) ≤ nI i from le_f (a := 5) hi), pgd_pos (pin_nI (by omega) (by omega)), pgd_pos (fun q => absurd ((lN0 (by omega)).mp q) (by omega)), pgd_pos (pin_nI (by omega) (by omega))]
    simp only [nI_cl (show i < 2147483648 by omega), h1 i hi, plt_eq, nI_1]
    rw [pk_lDiv (by omega) hG (by omega)]
  · by_cases q : j = i
    · subst q; exact updL_s _ _ _
    · rw [updL_n q]; exact hw.1 j (by omega)
  · rw [updL_n (by omega)]; exact hw.2 j (by omega)
theorem op_dug {wt weight : A64} (h : RWt 0 wt weight) {ch : G32} {chance : A32} (hc : RCh ch chance) {dg : Int32} {digs : A32} (hd : RDg 0 dg digs) (bh dr : A64) (x1 x2 : Int32) : ∃ r dg' bh' wt' digs' weight' dr', f_X11_dug x1 x2 dg bh wt ch = some (r, dg', bh', wt') ∧ f_X12_dug x1 x2 digs chance weight dr = some (r, digs', weight', dr') ∧ RWt 0 wt' weight' ∧ RDg 0 dg' digs' ∧ (∀ z, 0 < z → digs' z = digs z) ∧ (∀ j, 5 ≤ j → weight' j = weight j) := by
  obtain ⟨W, H⟩ := h.ok
  have K := hc.ok
  generalize (fun s m => (ch s m).toNatClampNeg) = C at K
  have hd0 := hd
  obtain ⟨d, d1, rfl, d2⟩ := hd
  have n10 : ¬ (1 : Int32) = 0 := by decide
  unfold f_X11_dug f_X12_dug
  simp only [isMarsh_eq, isBit_eq, in_eq, pcl_some, pbr_bI, cl_0, d2]
  by_cases c1 : 0 ≤ x1 ∧ x1 ≤ 5
  case neg =>
    rw [pbr_neg c1, pbr_neg c1]; exact ⟨_, _, _, _, _, _, _, rfl, rfl, h, hd0, fun _ _ => rfl, fun _ _ => rfl⟩
  rw [pbr_pos c1, pbr_pos c1]
  obtain ⟨m, -, hm, rfl⟩ := of_span (a := 0) (b := 5) (by omega) (by omega) c1.1 c1.2
  have hm6 : m < 6 := by omega
  by_cases e : x2 = 0 ∨ x2 = 1
  case neg =>
    rw [pbr_neg e, pbr_neg (fun q => e ((bit_span x2).mpr q))]; exact ⟨_, _, _, _, _, _, _, rfl, rfl, h, hd0, fun _ _ => rfl, fun _ _ => rfl⟩
  rw [pbr_pos e, pbr_pos ((bit_span x2).mp e)]
  unfold f_X2_isDug
  by_cases g : (nI d >>> (nI m &&& 31)) &&& 1 = 1
  · rw [pbr_pos g, pbr_pos g, pcl_some, pbr_neg n10]; exact ⟨_, _, _, _, _, _, _, rfl, rfl, h, hd0, fun _ _ => rfl, fun _ _ => rfl⟩
  rw [pbr_neg g, pbr_neg g, pcl_some, pbr_pos rfl]
  have hb : ∀ i, i < 5 → wB W C m x2 i ≤ 10000000000000 := fun i hi => wB_le H K hm6 hi x2
  obtain ⟨b1, p1, p2⟩ := weigh1 H K hm6 x2 bh
  obtain ⟨b2, q1, q2⟩ := mweigh1 H K hm6 e digs dr
  rw [p2, q2]
  have hG2 := gcF_le (n := 5) hb
  by_cases z : gcF (wB W C m x2) 5 = 0
  · rw [z, pbr_pos (show lN 0 = 0 from rfl), pbr_pos (show lN 0 = 0 from rfl), pcl_some]
    dsimp only
    rw [pbr_neg (show ¬ (-2 : Int32) = -1 by decide)]
    exact ⟨_, _, _, _, _, _, _, rfl, rfl, h, hd0, fun _ _ => rfl, fun _ _ => rfl⟩
  have nz : ¬ lN (gcF (wB W C m x2) 5) = 0 := fun q => z ((lN0 (by omega)).mp q)
  rw [pbr_neg nz, pbr_neg nz]
  have hG : 0 < gcF (wB W C m x2) 5 := by omega
  have FUb := FU_big
  rcases weigh2 hG hG2 hb wt ch (nI m) x2 5 0 FU b1 (by omega) (by omega) (fun j _ hj => p1 j hj) (fun j hj => absurd hj (by omega)) with ⟨a1, f', a2, a3⟩ | ⟨a1, f', a2⟩
  · rcases mweigh2 hG hG2 hb chance (nI m) x2 digs weight b2 q1 5 0 FU (by omega) (by omega) with ⟨-, a4⟩ | ⟨a4, -⟩
    · obtain ⟨w', w1, w2, w3⟩ := mweigh3 hG hG2 hb chance (nI m) x2 digs weight b2 q1
      obtain ⟨o1, o2⟩ := or64 d d1 m hm6
      rw [show (0 : Int32) = nI 0 from rfl, a2, a4, pcl_some]
      dsimp only
      rw [w3, d2, o1, mpop o2, pcl_some, pbr_pos rfl]
      unfold f_X8_settle f_X2_dugCount
      simp only [plt_eq, o1, pcl_some]
      rw [pop64' _ o2, pcl_some, pcl_some]
      refine ⟨_, _, _, _, _, _, _, rfl, rfl, ?_, ⟨_, o2, rfl, upd_s _ _ _⟩, fun z hz => upd_n (by omega), w2⟩
      refine WtOK.rel (W := fun j => wB W C m x2 j / gcF (wB W C m x2) 5) (fun s hs => ⟨a1 s (by omega) hs, ?_, w1 s hs⟩)
      rw [show (5 : Int32).toNatClampNeg = 5 by decide, cl_0, pk_cpy_in (Nat.zero_le s) (by omega), show 0 + (s - 0) = s by omega]
      exact a3 s hs
    · exact absurd (fun j _ hj => a1 j (by omega) hj) a4
  · rcases mweigh2 hG hG2 hb chance (nI m) x2 digs weight b2 q1 5 0 FU (by omega) (by omega) with ⟨a4, -⟩ | ⟨-, a4⟩
    · exact absurd (fun j _ hj => a4 j (by omega) hj) a1
    · rw [show (0 : Int32) = nI 0 from rfl, a2, a4, pcl_some]
      dsimp only
      rw [pbr_neg (show ¬ (-3 : Int32) = -1 by decide)]
      exact ⟨_, _, _, _, _, _, _, rfl, rfl, h, hd0, fun _ _ => rfl, fun _ _ => rfl⟩
