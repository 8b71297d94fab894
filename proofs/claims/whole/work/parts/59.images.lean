/-! ===== all that was found, and its images ===== -/
def RFd (z : Nat) (dg bc : Int32) (cl fr to lo hi : A32) (sc : Int32) (ms od yg : A32) (kc : Int32) (yr : A32) (wt : A64) (books told sheets marsh oldest youngest knowns known digs : A32) (weight : A64) : Prop := RBk z cl fr to lo hi bc books told ∧ RSh z ms od yg sc sheets marsh oldest youngest ∧ RKn z yr kc knowns known ∧ RWt z wt weight ∧ RDg z dg digs
def SlotEq (a b : Nat) (books told sheets marsh oldest youngest knowns known digs : A32) (weight : A64) (books' told' sheets' marsh' oldest' youngest' knowns' known' digs' : A32) (weight' : A64) : Prop := books' b = books a ∧ (∀ j, j < 30 → told' (30 * b + j) = told (30 * a + j)) ∧ sheets' b = sheets a ∧ (∀ j, j < 12 → marsh' (12 * b + j) = marsh (12 * a + j) ∧ oldest' (12 * b + j) = oldest (12 * a + j) ∧ youngest' (12 * b + j) = youngest (12 * a + j)) ∧ knowns' b = knowns a ∧ (∀ j, j < 16 → known' (16 * b + j) = known (16 * a + j)) ∧ digs' b = digs a ∧ ∀ j, j < 5 → weight' (5 * b + j) = weight (5 * a + j)
theorem RFd.move {a b : Nat} {dg bc : Int32} {cl fr to lo hi : A32} {sc : Int32} {ms od yg : A32} {kc : Int32} {yr : A32} {wt : A64} {books told sheets marsh oldest youngest knowns known digs : A32} {weight : A64} {books' told' sheets' marsh' oldest' youngest' knowns' known' digs' : A32} {weight' : A64} (h : RFd a dg bc cl fr to lo hi sc ms od yg kc yr wt books told sheets marsh oldest youngest knowns known digs weight) (hs : SlotEq a b books told sheets marsh oldest youngest knowns known digs weight books' told' sheets' marsh' oldest' youngest' knowns' known' digs' weight') : RFd b dg bc cl fr to lo hi sc ms od yg kc yr wt books' told' sheets' marsh' oldest' youngest' knowns' known' digs' weight' := by
  obtain ⟨s1, s2, s3, s4, s5, s6, s7, s8⟩ := hs
  obtain ⟨⟨n, n1, n2, n3, hn⟩, ⟨p, p1, p2, p3, hp⟩, ⟨q, q1, q2, q3, hq, hq2⟩, hw, ⟨d, d1, d2, d3⟩⟩ := h
  refine ⟨⟨n, n1, n2, s1.trans n3, fun i hi => ?_⟩, ⟨p, p1, p2, s3.trans p3, fun i hi => ?_⟩, ⟨q, q1, q2, s5.trans q3, fun i hi => ?_, hq2⟩, fun i hi => ?_, ⟨d, d1, d2, s7.trans d3⟩⟩
  · rw [Nat.add_assoc (30 * b) (5 * i) 1, Nat.add_assoc (30 * b) (5 * i) 2, Nat.add_assoc (30 * b) (5 * i) 3, Nat.add_assoc (30 * b) (5 * i) 4, s2 (5 * i) (by omega), s2 (5 * i + 1) (by omega), s2 (5 * i + 2) (by omega), s2 (5 * i + 3) (by omega), s2 (5 * i + 4) (by omega)]
    exact hn i hi
  · rw [(s4 i (by omega)).1, (s4 i (by omega)).2.1, (s4 i (by omega)).2.2]
    exact hp i hi
  · rw [s6 i (by omega)]
    exact hq i hi
  · rw [s8 i hi]
    exact hw i hi
/-- the class's own copy -/
def ClsEq (dg bc : Int32) (cl fr to lo hi : A32) (sc : Int32) (ms od yg : A32) (kc : Int32) (yr : A32) (wt : A64) (dg' bc' : Int32) (cl' fr' to' lo' hi' : A32) (sc' : Int32) (ms' od' yg' : A32) (kc' : Int32) (yr' : A32) (wt' : A64) : Prop := dg' = dg ∧ bc' = bc ∧ sc' = sc ∧ kc' = kc ∧ (∀ j, j < 6 → cl' j = cl j ∧ fr' j = fr j ∧ to' j = to j ∧ lo' j = lo j ∧ hi' j = hi j) ∧ (∀ j, j < 12 → ms' j = ms j ∧ od' j = od j ∧ yg' j = yg j) ∧ (∀ j, j < 16 → yr' j = yr j) ∧ ∀ j, j < 5 → wt' j = wt j
theorem RFd.cls {z : Nat} {dg bc : Int32} {cl fr to lo hi : A32} {sc : Int32} {ms od yg : A32} {kc : Int32} {yr : A32} {wt : A64} {dg' bc' : Int32} {cl' fr' to' lo' hi' : A32} {sc' : Int32} {ms' od' yg' : A32} {kc' : Int32} {yr' : A32} {wt' : A64} {books told sheets marsh oldest youngest knowns known digs : A32} {weight : A64} (h : RFd z dg bc cl fr to lo hi sc ms od yg kc yr wt books told sheets marsh oldest youngest knowns known digs weight) (hs : ClsEq dg bc cl fr to lo hi sc ms od yg kc yr wt dg' bc' cl' fr' to' lo' hi' sc' ms' od' yg' kc' yr' wt') : RFd z dg' bc' cl' fr' to' lo' hi' sc' ms' od' yg' kc' yr' wt' books told sheets marsh oldest youngest knowns known digs weight := by
  obtain ⟨rfl, rfl, rfl, rfl, s5, s6, s7, s8⟩ := hs
  obtain ⟨⟨n, n1, n2, n3, hn⟩, ⟨p, p1, p2, p3, hp⟩, ⟨q, q1, q2, q3, hq, hq2⟩, hw, hd⟩ := h
  refine ⟨⟨n, n1, n2, n3, fun i hi => ?_⟩, ⟨p, p1, p2, p3, fun i hi => ?_⟩, ⟨q, q1, q2, q3, fun i hi => ?_, fun i hi => ?_⟩, fun i hi => ?_, hd⟩
  · obtain ⟨e1, e2, e3, e4, e5⟩ := s5 i (by omega)
    rw [e1, e2, e3, e4, e5]
    exact hn i hi
  · obtain ⟨e1, e2, e3⟩ := s6 i (by omega)
    rw [e1, e2, e3]
    exact hp i hi
  · rw [s7 i (by omega)]
    exact hq i hi
  · rw [s7 i (by omega), s7 (i + 1) (by omega)]
    exact hq2 i hi
  · rw [s8 i hi]
    exact hw i hi
theorem cpy_at {α : Type} {f g : Nat → α} {n j : Nat} (h : j < n) : va_cpy f g 0 0 n j = f j := (pk_cpy_in (Nat.zero_le j) (by omega)).trans (congrArg f (by omega))
theorem become_eq {dg bc : Int32} {cl fr to lo hi : A32} {sc : Int32} {ms od yg : A32} {kc : Int32} {yr : A32} {wt : A64} {dg' bc' : Int32} {cl' fr' to' lo' hi' : A32} {sc' : Int32} {ms' od' yg' : A32} {kc' : Int32} {yr' : A32} {wt' : A64} : ∃ dg2 bc2 cl2 fr2 to2 lo2 hi2 sc2 ms2 od2 yg2 kc2 yr2 wt2, f_X2_become dg' dg bc' bc cl cl' fr fr' to to' lo lo' hi hi' sc' sc ms ms' od od' yg yg' kc' kc yr yr' wt wt' = some (dg2, bc2, cl2, fr2, to2, lo2, hi2, sc2, ms2, od2, yg2, kc2, yr2, wt2) ∧ ClsEq dg bc cl fr to lo hi sc ms od yg kc yr wt dg2 bc2 cl2 fr2 to2 lo2 hi2 sc2 ms2 od2 yg2 kc2 yr2 wt2 := by
  refine ⟨_, _, _, _, _, _, _, _, _, _, _, _, _, _, rfl, rfl, rfl, rfl, rfl, fun j hj => ⟨cpy_at hj, cpy_at hj, cpy_at hj, cpy_at hj, cpy_at hj⟩, fun j hj => ⟨cpy_at hj, cpy_at hj, cpy_at hj⟩, fun j hj => cpy_at hj, fun j hj => cpy_at hj⟩
/-- a slot copied place by place -/
def cpF {α : Type} (u : (Nat → α) → Nat → α → Nat → α) (A B : Nat) (n : Nat) (t : Nat → α) : Nat → α := fold (fun i t => u t (B + i) (t (A + i))) n t
theorem cpF_ok {α : Type} {u : (Nat → α) → Nat → α → Nat → α} (us : ∀ f k x, u f k x k = x) (un : ∀ f k x j, j ≠ k → u f k x j = f j) {A B K : Nat} (hd : A + K ≤ B ∨ B + K ≤ A) (t : Nat → α) : ∀ n, n ≤ K → (∀ j, j < n → cpF u A B n t (B + j) = t (A + j)) ∧ ∀ k, (k < B ∨ B + K ≤ k) → cpF u A B n t k = t k
  | 0, _ => ⟨fun j hj => absurd hj (by omega), fun _ _ => rfl⟩
  | n + 1, h => by
    obtain ⟨h1, h2⟩ := cpF_ok us un hd t n (by omega)
    have e : cpF u A B (n + 1) t = u (cpF u A B n t) (B + n) (cpF u A B n t (A + n)) := rfl
    refine ⟨fun j hj => ?_, fun k hk => ?_⟩
    · rw [e]
      by_cases q : j = n
      · subst q
        rw [us, h2 (A + j) (by omega)]
      · rw [un _ _ _ _ (by omega)]
        exact h1 j (by omega)
    · rw [e, un _ _ _ _ (by omega)]
      exact h2 k hk
theorem copy_eq {a b : Nat} (ha : a < 3) (hb : b < 3) (hab : a ≠ b) (books told sheets marsh oldest youngest knowns known digs : A32) (weight : A64) : f_X12_copy (nI a) (nI b) books sheets knowns digs told marsh oldest youngest known weight = some (upd books b (books a), upd sheets b (sheets a), upd knowns b (knowns a), upd digs b (digs a), cpF upd (30 * a) (30 * b) 30 told, cpF upd (12 * a) (12 * b) 12 marsh, cpF upd (12 * a) (12 * b) 12 oldest, cpF upd (12 * a) (12 * b) 12 youngest, cpF upd (16 * a) (16 * b) 16 known, cpF vp_updL (5 * a) (5 * b) 5 weight) := by
  unfold f_X12_copy
  rw [pgd_pos (pin_nI ha (by omega)), pgd_pos (pin_nI hb (by omega))]
  simp only [plt_eq, nI_cl (show a < 2147483648 by omega), nI_cl (show b < 2147483648 by omega)]
  generalize upd books b (books a) = books2
  generalize upd sheets b (sheets a) = sheets2
  generalize upd knowns b (knowns a) = knowns2
  generalize upd digs b (digs a) = digs2
  have k1 := loop_up0 (fun fu i t => f_X12_copy_50 (nI a) (nI b) fu i books2 sheets2 knowns2 digs2 t marsh oldest youngest known weight) (fun i t => upd t (30 * b + i) (t (30 * a + i))) (fun t => f_X12_copy_86 (nI a) (nI b) FU 0 books2 sheets2 knowns2 digs2 t marsh oldest youngest known weight) 30 (by omega) (fun fu t => ?_) (fun fu i t hi => ?_) told
  refine Eq.trans k1 ?_
  show f_X12_copy_86 (nI a) (nI b) FU 0 books2 sheets2 knowns2 digs2 (cpF upd (30 * a) (30 * b) 30 told) marsh oldest youngest known weight = _
  generalize cpF upd (30 * a) (30 * b) 30 told = told2
  have k2 := loop_up0 (fun fu i (t : A32 × A32 × A32) => f_X12_copy_86 (nI a) (nI b) fu i books2 sheets2 knowns2 digs2 told2 t.1 t.2.1 t.2.2 known weight) (fun i t => (upd t.1 (12 * b + i) (t.1 (12 * a + i)), upd t.2.1 (12 * b + i) (t.2.1 (12 * a + i)), upd t.2.2 (12 * b + i) (t.2.2 (12 * a + i)))) (fun t => f_X12_copy_166 (nI a) (nI b) FU 0 books2 sheets2 knowns2 digs2 told2 t.1 t.2.1 t.2.2 known weight) 12 (by omega) (fun fu t => ?_) (fun fu i t hi => ?_) (marsh, oldest, youngest)
  refine Eq.trans k2 ?_
  have e3 : ∀ n, fold (fun i (t : A32 × A32 × A32) => (upd t.1 (12 * b + i) (t.1 (12 * a + i)), upd t.2.1 (12 * b + i) (t.2.1 (12 * a + i)), upd t.2.2 (12 * b + i) (t.2.2 (12 * a + i)))) n (marsh, oldest, youngest) = (cpF upd (12 * a) (12 * b) n marsh, cpF upd (12 * a) (12 * b) n oldest, cpF upd (12 * a) (12 * b) n youngest) := fun n => by
    unfold cpF
    induction n with
    | zero => rfl
    | succ n ih =>
      simp only [fold]
      rw [ih]
  rw [e3]
  dsimp only
  generalize cpF upd (12 * a) (12 * b) 12 marsh = marsh2
  generalize cpF upd (12 * a) (12 * b) 12 oldest = oldest2
  generalize cpF upd (12 * a) (12 * b) 12 youngest = youngest2
  have k3 := loop_up0 (fun fu i t => f_X12_copy_166 (nI a) (nI b) fu i books2 sheets2 knowns2 digs2 told2 marsh2 oldest2 youngest2 t weight) (fun i t => upd t (16 * b + i) (t (16 * a + i))) (fun t => f_X12_copy_202 (nI a) (nI b) FU 0 books2 sheets2 knowns2 digs2 told2 marsh2 oldest2 youngest2 t weight) 16 (by omega) (fun fu t => ?_) (fun fu i t hi => ?_) known
  refine Eq.trans k3 ?_
  show f_X12_copy_202 (nI a) (nI b) FU 0 books2 sheets2 knowns2 digs2 told2 marsh2 oldest2 youngest2 (cpF upd (16 * a) (16 * b) 16 known) weight = _
  generalize cpF upd (16 * a) (16 * b) 16 known = known2
  have k4 := loop_up0 (fun fu i t => f_X12_copy_202 (nI a) (nI b) fu i books2 sheets2 knowns2 digs2 told2 marsh2 oldest2 youngest2 known2 t) (fun i t => vp_updL t (5 * b + i) (t (5 * a + i))) (fun t => some (books2, sheets2, knowns2, digs2, told2, marsh2, oldest2, youngest2, known2, t)) 5 (by omega) (fun fu t => ?_) (fun fu i t hi => ?_) weight
  exact k4
  · show f_X12_copy_202 (nI a) (nI b) (fu + 1) (nI 5) books2 sheets2 knowns2 digs2 told2 marsh2 oldest2 youngest2 known2 t = _
    rw [f_X12_copy_202, pbr_pos (show (5 : Int32) ≤ nI 5 by decide)]
  · show f_X12_copy_202 (nI a) (nI b) (fu + 1) (nI i) books2 sheets2 knowns2 digs2 told2 marsh2 oldest2 youngest2 known2 t = f_X12_copy_202 (nI a) (nI b) fu (nI (i + 1)) books2 sheets2 knowns2 digs2 told2 marsh2 oldest2 youngest2 known2 _
    have ea : (5 : Int32) * nI a + nI i = nI (5 * a + i) := by rw [show (5 : Int32) = nI 5 from rfl, nI_mul, nI_add]
    have eb : (5 : Int32) * nI b + nI i = nI (5 * b + i) := by rw [show (5 : Int32) = nI 5 from rfl, nI_mul, nI_add]
    rw [f_X12_copy_202, pbr_neg (show ¬ (5 : Int32) ≤ nI i from le_f (a := 5) hi)]
    simp only [ea, eb]
    rw [pgd_pos (pin_nI (by omega) (by omega)), pgd_pos (pin_nI (by omega) (by omega))]
    simp only [plt_eq, nI_1, nI_cl (show 5 * a + i < 2147483648 by omega), nI_cl (show 5 * b + i < 2147483648 by omega)]
  · show f_X12_copy_166 (nI a) (nI b) (fu + 1) (nI 16) books2 sheets2 knowns2 digs2 told2 marsh2 oldest2 youngest2 t weight = _
    rw [f_X12_copy_166, pbr_pos (show (16 : Int32) ≤ nI 16 by decide)]
  · show f_X12_copy_166 (nI a) (nI b) (fu + 1) (nI i) books2 sheets2 knowns2 digs2 told2 marsh2 oldest2 youngest2 t weight = f_X12_copy_166 (nI a) (nI b) fu (nI (i + 1)) books2 sheets2 knowns2 digs2 told2 marsh2 oldest2 youngest2 _ weight
    have ea : (16 : Int32) * nI a + nI i = nI (16 * a + i) := by rw [show (16 : Int32) = nI 16 from rfl, nI_mul, nI_add]
    have eb : (16 : Int32) * nI b + nI i = nI (16 * b + i) := by rw [show (16 : Int32) = nI 16 from rfl, nI_mul, nI_add]
    rw [f_X12_copy_166, pbr_neg (show ¬ (16 : Int32) ≤ nI i from le_f (a := 16) hi)]
    simp only [ea, eb]
    rw [pgd_pos (pin_nI (by omega) (by omega)), pgd_pos (pin_nI (by omega) (by omega))]
    simp only [plt_eq, nI_1, nI_cl (show 16 * a + i < 2147483648 by omega), nI_cl (show 16 * b + i < 2147483648 by omega)]
  · show f_X12_copy_86 (nI a) (nI b) (fu + 1) (nI 12) books2 sheets2 knowns2 digs2 told2 t.1 t.2.1 t.2.2 known weight = _
    rw [f_X12_copy_86, pbr_pos (show (12 : Int32) ≤ nI 12 by decide)]
  · show f_X12_copy_86 (nI a) (nI b) (fu + 1) (nI i) books2 sheets2 knowns2 digs2 told2 t.1 t.2.1 t.2.2 known weight = f_X12_copy_86 (nI a) (nI b) fu (nI (i + 1)) books2 sheets2 knowns2 digs2 told2 _ _ _ known weight
    have ea : (12 : Int32) * nI a + nI i = nI (12 * a + i) := by rw [show (12 : Int32) = nI 12 from rfl, nI_mul, nI_add]
    have eb : (12 : Int32) * nI b + nI i = nI (12 * b + i) := by rw [show (12 : Int32) = nI 12 from rfl, nI_mul, nI_add]
    rw [f_X12_copy_86, pbr_neg (show ¬ (12 : Int32) ≤ nI i from le_f (a := 12) hi)]
    simp only [ea, eb]
    rw [pgd_pos (pin_nI (by omega) (by omega)), pgd_pos (pin_nI (by omega) (by omega))]
    simp only [plt_eq, nI_1, nI_cl (show 12 * a + i < 2147483648 by omega), nI_cl (show 12 * b + i < 2147483648 by omega)]
  · show f_X12_copy_50 (nI a) (nI b) (fu + 1) (nI 30) books2 sheets2 knowns2 digs2 t marsh oldest youngest known weight = _
    rw [f_X12_copy_50, pbr_pos (show (30 : Int32) ≤ nI 30 by decide)]
  · show f_X12_copy_50 (nI a) (nI b) (fu + 1) (nI i) books2 sheets2 knowns2 digs2 t marsh oldest youngest known weight = f_X12_copy_50 (nI a) (nI b) fu (nI (i + 1)) books2 sheets2 knowns2 digs2 _ marsh oldest youngest known weight
    have ea : (30 : Int32) * nI a + nI i = nI (30 * a + i) := by rw [show (30 : Int32) = nI 30 from rfl, nI_mul, nI_add]
    have eb : (30 : Int32) * nI b + nI i = nI (30 * b + i) := by rw [show (30 : Int32) = nI 30 from rfl, nI_mul, nI_add]
    rw [f_X12_copy_50, pbr_neg (show ¬ (30 : Int32) ≤ nI i from le_f (a := 30) hi)]
    simp only [ea, eb]
    rw [pgd_pos (pin_nI (by omega) (by omega)), pgd_pos (pin_nI (by omega) (by omega))]
    simp only [plt_eq, nI_1, nI_cl (show 30 * a + i < 2147483648 by omega), nI_cl (show 30 * b + i < 2147483648 by omega)]
theorem copy_slots {a b : Nat} (ha : a < 3) (hb : b < 3) (hab : a ≠ b) (books told sheets marsh oldest youngest knowns known digs : A32) (weight : A64) : ∃ books' told' sheets' marsh' oldest' youngest' knowns' known' digs' weight', f_X12_copy (nI a) (nI b) books sheets knowns digs told marsh oldest youngest known weight = some (books', sheets', knowns', digs', told', marsh', oldest', youngest', known', weight') ∧ SlotEq a b books told sheets marsh oldest youngest knowns known digs weight books' told' sheets' marsh' oldest' youngest' knowns' known' digs' weight' ∧ (∀ z, z < 3 → z ≠ b → SlotEq z z books told sheets marsh oldest youngest knowns known digs weight books' told' sheets' marsh' oldest' youngest' knowns' known' digs' weight') ∧ sheets' b = sheets a := by
  have U := @upd_s
  have N : ∀ (f : A32) k x j, j ≠ k → upd f k x j = f j := fun f k x j h => upd_n h
  have UL := @updL_s
  have NL : ∀ (f : A64) k x j, j ≠ k → vp_updL f k x j = f j := fun f k x j h => updL_n h
  have c1 := cpF_ok U N (A := 30 * a) (B := 30 * b) (K := 30) (by omega) told 30 (by omega)
  have c2 := cpF_ok U N (A := 12 * a) (B := 12 * b) (K := 12) (by omega) marsh 12 (by omega)
  have c3 := cpF_ok U N (A := 12 * a) (B := 12 * b) (K := 12) (by omega) oldest 12 (by omega)
  have c4 := cpF_ok U N (A := 12 * a) (B := 12 * b) (K := 12) (by omega) youngest 12 (by omega)
  have c5 := cpF_ok U N (A := 16 * a) (B := 16 * b) (K := 16) (by omega) known 16 (by omega)
  have c6 := cpF_ok UL NL (A := 5 * a) (B := 5 * b) (K := 5) (by omega) weight 5 (by omega)
  refine ⟨_, _, _, _, _, _, _, _, _, _, copy_eq ha hb hab books told sheets marsh oldest youngest knowns known digs weight, ⟨U _ _ _, c1.1, U _ _ _, fun j hj => ⟨c2.1 j hj, c3.1 j hj, c4.1 j hj⟩, U _ _ _, c5.1, U _ _ _, c6.1⟩, fun z hz hzb => ⟨N _ _ _ _ hzb, fun j hj => c1.2 _ (by omega), N _ _ _ _ hzb, fun j hj => ⟨c2.2 _ (by omega), c3.2 _ (by omega), c4.2 _ (by omega)⟩, N _ _ _ _ hzb, fun j hj => c5.2 _ (by omega), N _ _ _ _ hzb, fun j hj => c6.2 _ (by omega)⟩, U _ _ _⟩
