/-! ===== trust ===== -/
/-- the sheets whose years meet those of sheet c -/
def cmP (o y : Nat → Nat) (c i : Nat) : Bool := decide (o i ≤ y c ∧ o c ≤ y i)
theorem comp_eq {ms od yg sheets marsh oldest youngest : A32} {n : Nat} {m o y : Nat → Nat} (H : ShOK ms od yg sheets marsh oldest youngest n m o y) {c : Nat} (hc : c < n) : f_X6_companions (nI c) (nI n) od yg = some (nI (ctF (cmP o y c) n 0)) := by
  obtain ⟨n1, n2, hn⟩ := H
  refine (loop_up0 (fun fu i (s : Nat) => f_X6_companions_4 (nI n) od yg (nI c) fu (nI s) i) (fun i a => if cmP o y c i = true then a + 1 else a) (fun s => some (nI s)) n (by omega) (fun fu s => ?_) (fun fu i s hi => ?_) 0 : _)
  · show f_X6_companions_4 (nI n) od yg (nI c) (fu + 1) (nI s) (nI n) = _
    rw [f_X6_companions_4, pbr_pos (le_t (by omega))]
  · show f_X6_companions_4 (nI n) od yg (nI c) (fu + 1) (nI s) (nI i) = f_X6_companions_4 (nI n) od yg (nI c) fu (nI (if cmP o y c i = true then s + 1 else s)) (nI (i + 1))
    obtain ⟨-, h2, h3, -, -, h6, -, h8, -⟩ := hn i hi
    obtain ⟨-, k2, k3, -, -, k6, -, k8, -⟩ := hn c hc
    rw [f_X6_companions_4, pbr_neg (le_f hi), pgd_pos (pin_nI (by omega) (by omega)), pgd_pos (pin_nI (by omega) (by omega))]
    simp only [plt_eq, nI_1, nI_cl (show i < 2147483648 by omega), nI_cl (show c < 2147483648 by omega), h6, h8, k6, k8]
    by_cases a : o i ≤ y c
    · rw [pbr_neg (lt_f a)]
      by_cases b : o c ≤ y i
      · rw [pbr_neg (lt_f b), if_pos (show cmP o y c i = true from decide_eq_true ⟨a, b⟩)]
      · rw [pbr_pos (lt_t (by omega)), if_neg (show ¬ cmP o y c i = true from fun q => b (of_decide_eq_true q).2)]
    · rw [pbr_pos (lt_t (by omega)), if_neg (show ¬ cmP o y c i = true from fun q => a (of_decide_eq_true q).1)]
theorem maF_all {m : Nat → Nat} {n : Nat} : maF (fun _ => true) m n = fold (fun i a => a ||| 2 ^ m i) n 0 := fold_congr (fun i _ s => if_pos rfl) 0
/-- what the model answers once all sheets are seen -/
def trE (books youngest oldest : A32) (x1 x2 x3 x4 x5 : Int32) (tr : Int64) : Option (Int32 × Int64) :=
  pbr (x1 = 0) (some (x3, tr + 1)) (pbr (x1 = 1) (some (x3 + x4, tr + 11)) (pbr (x1 = 2) (some (x3 + books 0, tr + 101)) (pbr (x1 = 3) (pcl (f_X12_bitsIn x5) (fun r => some ((x3 + x4) * r, tr + 1011))) (pbr (x1 = 4) (some (2 * (x3 + books 0), tr + 10101)) (pgd (pin x2 36) (some (x3 - (youngest x2.toNatClampNeg - oldest x2.toNatClampNeg + 1) / 100, tr + 100001)))))))
theorem mtrust {ms od yg sheets marsh oldest youngest : A32} {n : Nat} {m o y : Nat → Nat} (H : ShOK ms od yg sheets marsh oldest youngest n m o y) {c : Nat} (hc : c < n) (books : A32) (x1 x3 : Int32) (tr : Int64) : f_X12_trust_46 sheets marsh books youngest oldest x1 (nI c) FU x3 0 0 0 tr = trE books youngest oldest x1 (nI c) x3 (nI (ctF (cmP o y c) n 0)) (nI (maF (fun _ => true) m n)) tr := by
  obtain ⟨n1, n2, hn⟩ := H
  have key := loop_up (fun fu i (s : Nat × Nat) => f_X12_trust_46 sheets marsh books youngest oldest x1 (nI c) fu x3 (nI s.1) (nI s.2) i tr) (fun i s => ((if cmP o y c i = true then s.1 + 1 else s.1), s.2 ||| 2 ^ m i)) (fun s => trE books youngest oldest x1 (nI c) x3 (nI s.1) (nI s.2) tr) (fun _ s => s.2 < 64) n (by omega) (fun fu s _ => ?_) (fun fu i s hi hs => ?_) (0, 0) (Nat.zero_lt_succ _)
  · refine key.1.trans ?_
    have e : fold (fun i (s : Nat × Nat) => ((if cmP o y c i = true then s.1 + 1 else s.1), s.2 ||| 2 ^ m i)) n (0, 0) = (ctF (cmP o y c) n 0, maF (fun _ => true) m n) := by
      rw [maF_all]
      unfold ctF
      clear key hn n2 n1 hc
      induction n with
      | zero => rfl
      | succ n ih =>
        simp only [fold]
        rw [ih]
    rw [e]
  · show f_X12_trust_46 sheets marsh books youngest oldest x1 (nI c) (fu + 1) x3 (nI s.1) (nI s.2) (nI n) tr = _
    rw [f_X12_trust_46, cl_0, n2, pbr_pos (le_t (by omega))]
    simp only [plt_eq]
    rfl
  · obtain ⟨s1, s2⟩ := s
    have hs' : s2 < 64 := hs
    obtain ⟨h1, h2, h3, -, h5, -, h7, -, h9⟩ := hn i hi
    obtain ⟨-, k2, k3, -, -, -, k7, -, k9⟩ := hn c hc
    obtain ⟨o1, o2⟩ := or64 s2 hs' (m i) (by omega)
    refine ⟨?_, o2⟩
    show f_X12_trust_46 sheets marsh books youngest oldest x1 (nI c) (fu + 1) x3 (nI s1) (nI s2) (nI i) tr = f_X12_trust_46 sheets marsh books youngest oldest x1 (nI c) fu x3 (nI (if cmP o y c i = true then s1 + 1 else s1)) (nI (s2 ||| 2 ^ m i)) (nI (i + 1)) tr
    rw [f_X12_trust_46, cl_0, n2, pbr_neg (le_f hi), pgd_pos (pin_nI (by omega) (by omega)), pgd_pos (pin_nI (by omega) (by omega))]
    simp only [f_X12_trust_95, f_X12_trust_96, plt_eq, nI_1, Int32.add_zero, nI_cl (show i < 2147483648 by omega), nI_cl (show c < 2147483648 by omega), h5, h7, h9, k7, k9, o1, pgd_pos (pin_nI (show i < 36 by omega) (show 36 < 2147483648 by omega))]
    by_cases a : o i ≤ y c
    · rw [pbr_neg (lt_f a)]
      by_cases b : o c ≤ y i
      · rw [pbr_neg (lt_f b), if_pos (show cmP o y c i = true from decide_eq_true ⟨a, b⟩)]
      · rw [pbr_pos (lt_t (by omega)), if_neg (show ¬ cmP o y c i = true from fun q => b (of_decide_eq_true q).2)]
    · rw [pbr_pos (lt_t (by omega)), if_neg (show ¬ cmP o y c i = true from fun q => a (of_decide_eq_true q).1)]
theorem op_trust {ms od yg sheets marsh oldest youngest books : A32} {ct bc : Int32} (h : RSh 0 ms od yg ct sheets marsh oldest youngest) (hb : bc = books 0) (tr : Int64) (x1 x2 : Int32) : ∃ r tr', f_X11_trust x1 x2 ct tr ms od yg bc = some (r, tr') ∧ f_X12_trust x1 x2 tr sheets marsh books youngest oldest = some (r, tr') := by
  obtain ⟨n, rfl, H⟩ := h.ok
  generalize (fun i => (ms i).toNatClampNeg) = m at H
  generalize (fun i => (od i).toNatClampNeg) = o at H
  generalize (fun i => (yg i).toNatClampNeg) = y at H
  have H' := H
  obtain ⟨n1, n2, hn⟩ := H'
  subst hb
  unfold f_X11_trust f_X12_trust
  simp only [within_eq, in_eq, pcl_some, pbr_bI, plt_eq, cl_0, n2]
  by_cases c : 0 ≤ x2 ∧ x2 ≤ nI n - 1
  case neg =>
    rw [pbr_neg c, pbr_neg c]
    by_cases d : 0 ≤ x1 ∧ x1 ≤ 5
    · rw [pbr_pos d]; exact ⟨_, _, rfl, rfl⟩
    · rw [pbr_neg d]; exact ⟨_, _, rfl, rfl⟩
  rw [pbr_pos c, pbr_pos c]
  obtain ⟨k, hk, rfl⟩ := below (by omega) c
  obtain ⟨h1, h2, h3, h4, h5, h6, h7, h8, h9⟩ := hn k hk
  rw [pgd_pos (pin_nI (show k < 36 by omega) (by omega))]
  simp only [nI_cl (show k < 2147483648 by omega), h5]
  rw [mtrust H hk]
  have e64 := maF_lt (P := fun _ => true) (fun j hj => (hn j hj).1)
  have esign : ∀ t, f_X7_asSign (nI k) t ms = some (nI (m k) + 1, t + 1) := fun t => by
    unfold f_X7_asSign
    rw [plt_eq, pgd_pos (pin_nI (by omega) (by omega)), nI_cl (by omega), h4]
  have esheet : ∀ t, f_X7_asSheet (nI k) t (nI n) ms od yg = some (nI (m k) + 1 + nI (ctF (cmP o y k) n 0), t + 10 + 1) := fun t => by
    unfold f_X7_asSheet
    rw [plt_eq, esign, pcl_some]
    dsimp only
    rw [comp_eq H hk, pcl_some]
  have ewr : ∀ t b, f_X7_asWritten (nI k) t ms b = some (nI (m k) + 1 + b, t + 100 + 1) := fun t b => by
    unfold f_X7_asWritten
    rw [plt_eq, esign, pcl_some]
  by_cases d : 0 ≤ x1 ∧ x1 ≤ 5
  case neg =>
    rw [pbr_neg d]
    have ne : ∀ v : Nat, v ≤ 5 → ¬ x1 = nI v := fun v hv q => d (by rw [q]; exact in_span (a := 0) (b := 5) (by omega) (by omega) hv)
    rw [pbr_neg (show ¬ x1 = 0 from ne 0 (by omega)), pbr_neg (show ¬ x1 = 1 from ne 1 (by omega)), pbr_neg (show ¬ x1 = 2 from ne 2 (by omega)), pbr_neg (show ¬ x1 = 3 from ne 3 (by omega)), pbr_neg (show ¬ x1 = 4 from ne 4 (by omega)), pbr_neg (show ¬ x1 = 5 from ne 5 (by omega))]
    exact ⟨_, _, rfl, rfl⟩
  rw [pbr_pos d]
  obtain ⟨v, -, hv, rfl⟩ := of_span (a := 0) (b := 5) (by omega) (by omega) d.1 d.2
  unfold trE
  rcases (show v = 0 ∨ v = 1 ∨ v = 2 ∨ v = 3 ∨ v = 4 ∨ v = 5 by omega) with rfl | rfl | rfl | rfl | rfl | rfl
  · rw [pbr_pos (show nI 0 = 0 from rfl), pbr_pos (show nI 0 = 0 from rfl), esign, pcl_some]
    exact ⟨_, _, rfl, rfl⟩
  · rw [pbr_neg (show ¬ nI 1 = 0 by decide), pbr_neg (show ¬ nI 1 = 0 by decide), pbr_pos (show nI 1 = 1 from rfl), pbr_pos (show nI 1 = 1 from rfl), esheet, pcl_some]
    exact ⟨_, _, rfl, by rw [Int64.add_assoc]; rfl⟩
  · rw [pbr_neg (show ¬ nI 2 = 0 by decide), pbr_neg (show ¬ nI 2 = 0 by decide), pbr_neg (show ¬ nI 2 = 1 by decide), pbr_neg (show ¬ nI 2 = 1 by decide), pbr_pos (show nI 2 = 2 from rfl), pbr_pos (show nI 2 = 2 from rfl), ewr, pcl_some]
    exact ⟨_, _, rfl, by rw [Int64.add_assoc]; rfl⟩
  · rw [pbr_neg (show ¬ nI 3 = 0 by decide), pbr_neg (show ¬ nI 3 = 0 by decide), pbr_neg (show ¬ nI 3 = 1 by decide), pbr_neg (show ¬ nI 3 = 1 by decide), pbr_neg (show ¬ nI 3 = 2 by decide), pbr_neg (show ¬ nI 3 = 2 by decide), pbr_pos (show nI 3 = 3 from rfl), pbr_pos (show nI 3 = 3 from rfl), mpop e64]
    unfold f_X7_asSlid f_X6_all
    rw [plt_eq, pcl_some, maOf_eq H (ms_all n1), pcl_some, esheet, pcl_some]
    dsimp only
    rw [pop64' _ e64, pcl_some, pcl_some, pcl_some]
    exact ⟨_, _, rfl, by rw [Int64.add_assoc, Int64.add_assoc]; rfl⟩
  · rw [pbr_neg (show ¬ nI 4 = 0 by decide), pbr_neg (show ¬ nI 4 = 0 by decide), pbr_neg (show ¬ nI 4 = 1 by decide), pbr_neg (show ¬ nI 4 = 1 by decide), pbr_neg (show ¬ nI 4 = 2 by decide), pbr_neg (show ¬ nI 4 = 2 by decide), pbr_neg (show ¬ nI 4 = 3 by decide), pbr_neg (show ¬ nI 4 = 3 by decide), pbr_pos (show nI 4 = 4 from rfl), pbr_pos (show nI 4 = 4 from rfl)]
    unfold f_X7_asTold
    rw [plt_eq, ewr, pcl_some, pcl_some]
    exact ⟨_, _, rfl, by rw [Int64.add_assoc, Int64.add_assoc]; rfl⟩
  · rw [pbr_neg (show ¬ nI 5 = 0 by decide), pbr_neg (show ¬ nI 5 = 0 by decide), pbr_neg (show ¬ nI 5 = 1 by decide), pbr_neg (show ¬ nI 5 = 1 by decide), pbr_neg (show ¬ nI 5 = 2 by decide), pbr_neg (show ¬ nI 5 = 2 by decide), pbr_neg (show ¬ nI 5 = 3 by decide), pbr_neg (show ¬ nI 5 = 3 by decide), pbr_neg (show ¬ nI 5 = 4 by decide), pbr_neg (show ¬ nI 5 = 4 by decide), pbr_pos (show nI 5 = 5 from rfl), pgd_pos (pin_nI (by omega) (by omega))]
    unfold f_X7_asAged
    simp only [plt_eq, nI_cl (show k < 2147483648 by omega), h6, h7, h8, h9]
    rw [pgd_pos (pin_nI (by omega) (by omega)), esign, pcl_some, pcl_some]
    exact ⟨_, _, rfl, by rw [Int64.add_assoc]; rfl⟩
