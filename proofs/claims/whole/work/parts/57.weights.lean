/-! ===== weights ===== -/
def WtOK (wt weight : A64) (W : Nat → Nat) : Prop := ∀ s, s < 5 → W s ≤ 1000000000000 ∧ wt s = lN (W s) ∧ weight s = lN (W s)
theorem RWt.ok {wt weight : A64} (h : RWt 0 wt weight) : ∃ W, WtOK wt weight W := by
  have hq : ∀ s, ∃ w : Nat, s < 5 → w ≤ 1000000000000 ∧ wt s = lN w ∧ weight s = lN w := fun s => by
    by_cases e : s < 5
    · obtain ⟨w, w1, w2, w3⟩ := h s e
      rw [Nat.mul_zero, Nat.zero_add] at w3
      exact ⟨w, fun _ => ⟨w1, w2, w3⟩⟩
    · exact ⟨0, fun q => absurd q e⟩
  exact ⟨fun s => Classical.choose (hq s), fun s hs => Classical.choose_spec (hq s) hs⟩
theorem WtOK.rel {wt weight : A64} {W : Nat → Nat} (h : WtOK wt weight W) : RWt 0 wt weight := fun s hs => by
  obtain ⟨a, b, c⟩ := h s hs
  exact ⟨W s, a, b, by rw [Nat.mul_zero, Nat.zero_add]; exact c⟩
/-- the sum of the first n -/
def smN (W : Nat → Nat) (n : Nat) : Nat := fold (fun i a => a + W i) n 0
theorem smN_le {W : Nat → Nat} {b : Nat} : ∀ {n : Nat}, (∀ i, i < n → W i ≤ b) → smN W n ≤ b * n
  | 0, _ => Nat.zero_le _
  | n + 1, h => by
    have h1 := smN_le (n := n) (fun i hi => h i (by omega))
    have h2 := h n (by omega)
    show smN W n + W n ≤ b * (n + 1)
    rw [Nat.mul_succ]
    omega
theorem op_believed {wt weight : A64} (h : RWt 0 wt weight) (x1 x2 : Int32) : ∃ r, f_X11_believed x1 x2 wt = some r ∧ f_X12_believed x1 x2 weight = some r := by
  obtain ⟨W, H⟩ := h.ok
  have hS := smN_le (W := W) (b := 1000000000000) (n := 5) (fun i hi => (H i hi).1)
  unfold f_X11_believed f_X12_believed f_X8_part
  simp only [isStory_eq, mStory_eq, isBit_eq, in_eq, pcl_some, pbr_bI]
  by_cases c1 : 0 ≤ x1 ∧ x1 ≤ 4
  case neg =>
    rw [pbr_neg c1, pbr_neg c1]; exact ⟨_, rfl, rfl⟩
  rw [pbr_pos c1, pbr_pos c1]
  obtain ⟨s, -, hs, rfl⟩ := of_span (a := 0) (b := 4) (by omega) (by omega) c1.1 c1.2
  by_cases d : x2 = 0 ∨ x2 = 1
  case neg =>
    rw [pbr_neg d, pbr_neg (fun q => d ((bit_span x2).mpr q))]; exact ⟨_, rfl, rfl⟩
  rw [pbr_pos d, pbr_pos ((bit_span x2).mp d)]
  obtain ⟨a1, a2, a3⟩ := H s (by omega)
  have k1 : f_X8_part_5 wt (nI s) x2 FU 0 0 = some (if smN W 5 = 0 then x2.toInt64 else if x2 = 0 then lN (W s / Nat.gcd (W s) (smN W 5)) else lN (smN W 5 / Nat.gcd (W s) (smN W 5))) := by
    have key := loop_up0 (fun fu i (t : Nat) => f_X8_part_5 wt (nI s) x2 fu (lN t) i) (fun i a => a + W i) (fun t => f_X8_part_5 wt (nI s) x2 1 (lN t) (nI 5)) 5 (by omega) (fun fu t => ?_) (fun fu i t hi => ?_) 0
    · refine Eq.trans key ?_
      show f_X8_part_5 wt (nI s) x2 (0 + 1) (lN (smN W 5)) (nI 5) = _
      rw [f_X8_part_5, pbr_pos (show (5 : Int32) ≤ nI 5 by decide)]
      by_cases e : smN W 5 = 0
      · rw [if_pos e, e, pbr_pos lg0]
      · have hg : 0 < Nat.gcd (W s) (smN W 5) := Nat.gcd_pos_of_pos_right _ (by omega)
        have hg2 : Nat.gcd (W s) (smN W 5) ≤ smN W 5 := Nat.gcd_le_right _ (by omega)
        have ng : ¬ lN (Nat.gcd (W s) (smN W 5)) = 0 := fun q => absurd ((lN0 (by omega)).mp q) (by omega)
        rw [if_neg e, pbr_neg (fun q => e ((lN0 (by omega)).mp ((lg_cmp_eq _ _).mp q))), pgd_pos (pin_nI (by omega) (by omega))]
        simp only [nI_cl (show s < 2147483648 by omega), a2]
        rw [comPart_eq (by omega) (by omega), pcl_some, pbr_neg (fun q => ng ((lg_cmp_eq _ _).mp q)), pgd_pos ng, pgd_pos ng, pk_lDiv (by omega) hg (by omega), pk_lDiv (by omega) hg (by omega)]
        by_cases z : x2 = 0
        · rw [pbr_pos z, if_pos z]
        · rw [pbr_neg z, if_neg z]
    · show f_X8_part_5 wt (nI s) x2 (fu + 1) (lN t) (nI 5) = f_X8_part_5 wt (nI s) x2 (0 + 1) (lN t) (nI 5)
      rw [f_X8_part_5, f_X8_part_5, pbr_pos (show (5 : Int32) ≤ nI 5 by decide), pbr_pos (show (5 : Int32) ≤ nI 5 by decide)]
    · show f_X8_part_5 wt (nI s) x2 (fu + 1) (lN t) (nI i) = f_X8_part_5 wt (nI s) x2 fu (lN (t + W i)) (nI (i + 1))
      rw [f_X8_part_5, pbr_neg (show ¬ (5 : Int32) ≤ nI i from le_f (a := 5) hi), pgd_pos (pin_nI (by omega) (by omega))]
      simp only [nI_cl (show i < 2147483648 by omega), (H i hi).2.1, lN_add, plt_eq, nI_1]
  have k2 : f_X12_believed_25 weight (nI s) x2 FU 0 0 = some (if smN W 5 = 0 then x2.toInt64 else if x2 = 0 then lN (W s / Nat.gcd (W s) (smN W 5)) else lN (smN W 5 / Nat.gcd (W s) (smN W 5))) := by
    have key := loop_up0 (fun fu i (t : Nat) => f_X12_believed_25 weight (nI s) x2 fu (lN t) i) (fun i a => a + W i) (fun t => f_X12_believed_25 weight (nI s) x2 1 (lN t) (nI 5)) 5 (by omega) (fun fu t => ?_) (fun fu i t hi => ?_) 0
    · refine Eq.trans key ?_
      show f_X12_believed_25 weight (nI s) x2 (0 + 1) (lN (smN W 5)) (nI 5) = _
      rw [f_X12_believed_25, pbr_pos (show (5 : Int32) ≤ nI 5 by decide)]
      by_cases e : smN W 5 = 0
      · rw [if_pos e, e, pbr_pos lg0]
      · rw [if_neg e, pbr_neg (fun q => e ((lN0 (by omega)).mp ((lg_cmp_eq _ _).mp q))), pgd_pos (pin_nI (by omega) (by omega))]
        simp only [nI_cl (show s < 2147483648 by omega), a3]
        rw [inLeast_eq (by omega) (by omega) (by omega), pcl_some]
    · show f_X12_believed_25 weight (nI s) x2 (fu + 1) (lN t) (nI 5) = f_X12_believed_25 weight (nI s) x2 (0 + 1) (lN t) (nI 5)
      rw [f_X12_believed_25, f_X12_believed_25, pbr_pos (show (5 : Int32) ≤ nI 5 by decide), pbr_pos (show (5 : Int32) ≤ nI 5 by decide)]
    · show f_X12_believed_25 weight (nI s) x2 (fu + 1) (lN t) (nI i) = f_X12_believed_25 weight (nI s) x2 fu (lN (t + W i)) (nI (i + 1))
      rw [f_X12_believed_25, pbr_neg (show ¬ (5 : Int32) ≤ nI i from le_f (a := 5) hi), pgd_pos (pin_nI (by omega) (by omega))]
      simp only [nI_cl (show i < 2147483648 by omega), (H i hi).2.2, lN_add, plt_eq, nI_1]
  rw [k1, k2, pcl_some]
  exact ⟨_, rfl, rfl⟩
/-! ===== the chances ===== -/
def ChOK (ch : G32) (chance : A32) (C : Nat → Nat → Nat) : Prop := ∀ s m, s < 5 → m < 6 → C s m ≤ 10 ∧ ch s m = nI (C s m) ∧ chance (6 * s + m) = nI (C s m)
theorem RCh.ok {ch : G32} {chance : A32} (h : RCh ch chance) : ChOK ch chance (fun s m => (ch s m).toNatClampNeg) := fun s m hs hm => by
  obtain ⟨v, v1, v2, v3⟩ := h s m hs hm
  have e : (ch s m).toNatClampNeg = v := by rw [v2, nI_cl (by omega)]
  simp only [e]
  exact ⟨v1, v2, v3⟩
/-- the weight behind an answer -/
def wB (W : Nat → Nat) (C : Nat → Nat → Nat) (m : Nat) (x : Int32) (s : Nat) : Nat := W s * (if x = 1 then C s m else 10 - C s m)
theorem wB_le {wt weight : A64} {W : Nat → Nat} (H : WtOK wt weight W) {ch : G32} {chance : A32} {C : Nat → Nat → Nat} (K : ChOK ch chance C) {m s : Nat} (hm : m < 6) (hs : s < 5) (x : Int32) : wB W C m x s ≤ 10000000000000 := by
  unfold wB
  have h1 := (H s hs).1
  have h2 : (if x = 1 then C s m else 10 - C s m) ≤ 10 := ite_le (K s m hs hm).1 (by omega)
  exact Nat.le_trans (Nat.mul_le_mul h1 h2) (by omega)
theorem wbehind_eq {wt weight : A64} {W : Nat → Nat} (H : WtOK wt weight W) {ch : G32} {chance : A32} {C : Nat → Nat → Nat} (K : ChOK ch chance C) {m s : Nat} (hm : m < 6) (hs : s < 5) (x : Int32) : f_X8_weightBehind (nI s) (nI m) x wt ch = some (lN (wB W C m x s)) := by
  obtain ⟨c1, c2, c3⟩ := K s m hs hm
  unfold f_X8_weightBehind wB
  rw [pgd_pos (pin_nI (by omega) (by omega)), pgd_pos (pin_nI (by omega) (by omega)), plt_eq]
  simp only [nI_cl (show s < 2147483648 by omega), nI_cl (show m < 2147483648 by omega), (H s hs).2.1, c2]
  rw [show (10 : Int32) - nI (C s m) = nI (10 - C s m) from nI_sub (a := 10) c1, nI_l (by omega), nI_l (by omega), lN_mul, lN_mul]
  by_cases e : x = 1
  · rw [pbr_pos e, if_pos e]
  · rw [pbr_neg e, if_neg e]
/-! ===== dig ===== -/
def gB (b : Nat → Nat) (n : Nat) : Nat := fold (fun i a => if a < b i then b i else a) n 0
theorem gB_le {b : Nat → Nat} {k : Nat} : ∀ {n : Nat}, (∀ i, i < n → b i ≤ k) → gB b n ≤ k
  | 0, _ => Nat.zero_le _
  | n + 1, h => ite_le (h n (by omega)) (gB_le (fun i hi => h i (by omega)))
theorem great_eq {wt weight : A64} {W : Nat → Nat} (H : WtOK wt weight W) {ch : G32} {chance : A32} {C : Nat → Nat → Nat} (K : ChOK ch chance C) {m : Nat} (hm : m < 6) (x : Int32) : f_X8_greatestBehind (nI m) x wt ch = some (lN (gB (wB W C m x) 5)) := by
  refine (loop_up (fun fu i (t : Nat) => f_X8_greatestBehind_5 wt ch (nI m) x fu (lN t) i) (fun i a => if a < wB W C m x i then wB W C m x i else a) (fun t => some (lN t)) (fun _ t => t ≤ 10000000000000) 5 (by omega) (fun fu t _ => ?_) (fun fu i t hi ht => ?_) 0 (Nat.zero_le _)).1
  · show f_X8_greatestBehind_5 wt ch (nI m) x (fu + 1) (lN t) (nI 5) = _
    rw [f_X8_greatestBehind_5, pbr_pos (show (5 : Int32) ≤ nI 5 by decide)]
  · have ht' : t ≤ 10000000000000 := ht
    have hb := wB_le H K hm hi x
    refine ⟨?_, ite_le hb ht⟩
    show f_X8_greatestBehind_5 wt ch (nI m) x (fu + 1) (lN t) (nI i) = f_X8_greatestBehind_5 wt ch (nI m) x fu (lN (if t < wB W C m x i then wB W C m x i else t)) (nI (i + 1))
    rw [f_X8_greatestBehind_5, pbr_neg (show ¬ (5 : Int32) ≤ nI i from le_f (a := 5) hi), wbehind_eq H K hm hi, pcl_some]
    simp only [plt_eq, nI_1]
    by_cases e : wB W C m x i < t
    · rw [if_pos ((pk_lLT (by omega) (by omega)).mpr e), if_neg (by omega)]
    · rw [if_neg (fun q => e ((pk_lLT (by omega) (by omega)).mp q))]
      by_cases e2 : t < wB W C m x i
      · rw [if_pos e2]
      · rw [if_neg e2, show wB W C m x i = t by omega]
theorem dug01 : ∀ d : Nat, d < 64 → ∀ m : Nat, m < 6 → (((nI d >>> (nI m &&& 31)) &&& 1 = 0) ∨ ((nI d >>> (nI m &&& 31)) &&& 1 = 1)) := by decide +kernel
def dgS (W : Nat → Nat) (C : Nat → Nat → Nat) (d m : Nat) (s : Int32 × Int64) : Int32 × Int64 := if (nI d >>> (nI m &&& 31)) &&& 1 = 1 ∨ lN (gB (wB W C m 1) 5 + gB (wB W C m 0) 5) ≤ s.2 then s else (nI m, lN (gB (wB W C m 1) 5 + gB (wB W C m 0) 5))
theorem op_dig {wt weight : A64} (h : RWt 0 wt weight) {ch : G32} {chance : A32} (hc : RCh ch chance) {dg : Int32} {digs : A32} (hd : RDg 0 dg digs) : ∃ r, f_X11_dig dg wt ch = some r ∧ f_X12_dig digs chance weight = some r := by
  obtain ⟨W, H⟩ := h.ok
  have K := hc.ok
  generalize (fun s m => (ch s m).toNatClampNeg) = C at K
  obtain ⟨d, d1, rfl, d2⟩ := hd
  have n10 : ¬ (1 : Int32) = 0 := by decide
  have n01 : ¬ (0 : Int32) = 1 := by decide
  refine ⟨(fold (dgS W C d) 6 (-9, -1)).1, ?_, ?_⟩
  · unfold f_X11_dig f_X8_bestMarsh
    have key := loop_up0 (fun fu i (s : Int32 × Int64) => f_X8_bestMarsh_10 (nI d) wt ch fu s.1 s.2 i) (dgS W C d) (fun s => some s.1) 6 (by omega) (fun fu s => ?_) (fun fu m s hm => ?_) (-9, -1)
    · refine (congrArg (fun z => pcl z (fun r_1 => some r_1)) key).trans rfl
    · show f_X8_bestMarsh_10 (nI d) wt ch (fu + 1) s.1 s.2 (nI 6) = _
      rw [f_X8_bestMarsh_10, pbr_pos (show (6 : Int32) ≤ nI 6 by decide)]
    · show f_X8_bestMarsh_10 (nI d) wt ch (fu + 1) s.1 s.2 (nI m) = f_X8_bestMarsh_10 (nI d) wt ch fu (dgS W C d m s).1 (dgS W C d m s).2 (nI (m + 1))
      rw [f_X8_bestMarsh_10, pbr_neg (show ¬ (6 : Int32) ≤ nI m from le_f (a := 6) hm), great_eq H K hm, great_eq H K hm]
      simp only [f_X2_isDug, pcl_some, plt_eq, nI_1, lN_add]
      unfold dgS
      by_cases e : (nI d >>> (nI m &&& 31)) &&& 1 = 1
      · rw [pbr_pos e, pcl_some, pbr_neg n10, if_pos (Or.inl e)]
      · rw [pbr_neg e, pcl_some, pbr_pos rfl]
        by_cases g : lN (gB (wB W C m 1) 5 + gB (wB W C m 0) 5) ≤ s.2
        · rw [pbr_pos ((lg_cmp_le _ _).mpr g), if_pos (Or.inr g)]
        · rw [pbr_neg (fun q => g ((lg_cmp_le _ _).mp q)), if_neg (fun q => q.elim e g)]
  · refine loop_up0 (fun fu i (s : Int32 × Int64) => f_X12_dig_10 digs chance weight fu s.1 s.2 i) (dgS W C d) (fun s => some s.1) 6 (by omega) (fun fu s => ?_) (fun fu m s hm => ?_) (-9, -1)
    · show f_X12_dig_10 digs chance weight (fu + 1) s.1 s.2 (nI 6) = _
      rw [f_X12_dig_10, pbr_pos (show (6 : Int32) ≤ nI 6 by decide)]
    · show f_X12_dig_10 digs chance weight (fu + 1) s.1 s.2 (nI m) = f_X12_dig_10 digs chance weight fu (dgS W C d m s).1 (dgS W C d m s).2 (nI (m + 1))
      rw [f_X12_dig_10, pbr_neg (show ¬ (6 : Int32) ≤ nI m from le_f (a := 6) hm)]
      have key := loop_up (fun fw i (t : Nat × Nat) => f_X12_dig_26 (f_X12_dig_10 digs chance weight fu) digs chance weight fw s.1 s.2 (nI m) (lN t.1) (lN t.2) i) (fun i t => ((if t.1 < wB W C m 1 i then wB W C m 1 i else t.1), (if t.2 < wB W C m 0 i then wB W C m 0 i else t.2))) (fun t => f_X12_dig_26 (f_X12_dig_10 digs chance weight fu) digs chance weight 1 s.1 s.2 (nI m) (lN t.1) (lN t.2) (nI 5)) (fun _ t => t.1 ≤ 10000000000000 ∧ t.2 ≤ 10000000000000) 5 (by omega) (fun fw t _ => ?_) (fun fw i t hi ht => ?_) (0, 0) ⟨Nat.zero_le _, Nat.zero_le _⟩
      · refine key.1.trans ?_
        have ef : fold (fun i (t : Nat × Nat) => ((if t.1 < wB W C m 1 i then wB W C m 1 i else t.1), (if t.2 < wB W C m 0 i then wB W C m 0 i else t.2))) 5 (0, 0) = (gB (wB W C m 1) 5, gB (wB W C m 0) 5) := rfl
        rw [ef]
        show f_X12_dig_26 (f_X12_dig_10 digs chance weight fu) digs chance weight (0 + 1) s.1 s.2 (nI m) (lN (gB (wB W C m 1) 5)) (lN (gB (wB W C m 0) 5)) (nI 5) = _
        rw [f_X12_dig_26, pbr_pos (show (5 : Int32) ≤ nI 5 by decide), cl_0, d2]
        simp only [f_X12_dig_157, f_X12_dig_158, f_X12_dig_171, plt_eq, nI_1, lN_add]
        unfold dgS
        rcases dug01 d d1 m hm with e | e
        · have e' : ¬ (nI d >>> (nI m &&& 31)) &&& 1 = 1 := by rw [e]; decide
          rw [pbr_pos e]
          by_cases g : lN (gB (wB W C m 1) 5 + gB (wB W C m 0) 5) ≤ s.2
          · rw [pbr_pos ((lg_cmp_le _ _).mpr g), pbr_T, pbr_T, if_pos (Or.inr g)]
          · rw [pbr_neg (fun q => g ((lg_cmp_le _ _).mp q)), pbr_neg n10, pbr_neg n10, if_neg (fun q => q.elim e' g)]
        · rw [pbr_neg (by rw [e]; decide), pbr_T, pbr_T, if_pos (Or.inl e)]
      · show f_X12_dig_26 (f_X12_dig_10 digs chance weight fu) digs chance weight (fw + 1) s.1 s.2 (nI m) (lN t.1) (lN t.2) (nI 5) = f_X12_dig_26 (f_X12_dig_10 digs chance weight fu) digs chance weight (0 + 1) s.1 s.2 (nI m) (lN t.1) (lN t.2) (nI 5)
        rw [f_X12_dig_26, f_X12_dig_26, pbr_pos (show (5 : Int32) ≤ nI 5 by decide), pbr_pos (show (5 : Int32) ≤ nI 5 by decide)]
      · obtain ⟨t1, t2⟩ := t
        obtain ⟨ht1, ht2⟩ := ht
        have ht1' : t1 ≤ 10000000000000 := ht1
        have ht2' : t2 ≤ 10000000000000 := ht2
        have b1 := wB_le H K hm hi 1
        have b0 := wB_le H K hm hi 0
        obtain ⟨c1, c2, c3⟩ := K i m hi hm
        refine ⟨?_, ite_le b1 ht1, ite_le b0 ht2⟩
        show f_X12_dig_26 (f_X12_dig_10 digs chance weight fu) digs chance weight (fw + 1) s.1 s.2 (nI m) (lN t1) (lN t2) (nI i) = f_X12_dig_26 (f_X12_dig_10 digs chance weight fu) digs chance weight fw s.1 s.2 (nI m) (lN (if t1 < wB W C m 1 i then wB W C m 1 i else t1)) (lN (if t2 < wB W C m 0 i then wB W C m 0 i else t2)) (nI (i + 1))
        have e6 : (6 : Int32) * nI i + nI m = nI (6 * i + m) := by rw [show (6 : Int32) = nI 6 from rfl, nI_mul, nI_add]
        have eb1 : W i * C i m = wB W C m 1 i := by unfold wB; rw [if_pos rfl]
        have eb0 : W i * (10 - C i m) = wB W C m 0 i := by unfold wB; rw [if_neg n01]
        have e10 : (10 : Int32) - nI (C i m) = nI (10 - C i m) := nI_sub (a := 10) c1
        rw [f_X12_dig_26, pbr_neg (show ¬ (5 : Int32) ≤ nI i from le_f (a := 5) hi)]
        simp only [e6]
        rw [pgd_pos (pin_nI (by omega) (by omega))]
        simp only [f_X12_dig_80, plt_eq, nI_1, nI_cl (show i < 2147483648 by omega), nI_cl (show 6 * i + m < 2147483648 by omega), (H i hi).2.2, c3, e10, nI_l (show C i m < 2147483648 by omega), nI_l (show 10 - C i m < 2147483648 by omega), lN_mul, eb1, eb0, pgd_pos (pin_nI (show i < 15 by omega) (show 15 < 2147483648 by omega))]
        by_cases p : t1 < wB W C m 1 i
        · rw [pbr_neg (fun q => absurd ((pk_lLE (by omega) (by omega)).mp ((lg_cmp_le _ _).mp q)) (by omega)), if_pos p]
          by_cases q : t2 < wB W C m 0 i
          · rw [pbr_neg (fun q => absurd ((pk_lLE (by omega) (by omega)).mp ((lg_cmp_le _ _).mp q)) (by omega)), if_pos q]
          · rw [pbr_pos ((lg_cmp_le _ _).mpr ((pk_lLE (by omega) (by omega)).mpr (by omega))), if_neg q]
        · rw [pbr_pos ((lg_cmp_le _ _).mpr ((pk_lLE (by omega) (by omega)).mpr (by omega))), if_neg p]
          by_cases q : t2 < wB W C m 0 i
          · rw [pbr_neg (fun q => absurd ((pk_lLE (by omega) (by omega)).mp ((lg_cmp_le _ _).mp q)) (by omega)), if_pos q]
          · rw [pbr_pos ((lg_cmp_le _ _).mpr ((pk_lLE (by omega) (by omega)).mpr (by omega))), if_neg q]
