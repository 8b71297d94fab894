/-! ===== sets as bits ===== -/
def bt (x : Int32) (i : Nat) : Bool := x.toBitVec.getLsbD i
theorem sh31 : ∀ i : Nat, i < 32 → ((nI i &&& 31).toBitVec.smod 32).toNat = i := by decide +kernel
theorem shr_bv (x : Int32) {i : Nat} (hi : i < 32) : (x >>> (nI i &&& 31)).toBitVec = x.toBitVec.sshiftRight i := by
  rw [Int32.toBitVec_shiftRight]
  show x.toBitVec.sshiftRight (((nI i &&& 31).toBitVec.smod 32).toNat) = _
  rw [sh31 i hi]
theorem and1 (y : Int32) : (y &&& 1 = 1) ↔ bt y 0 = true := by
  unfold bt
  rw [← Int32.toBitVec_inj, Int32.toBitVec_and, show (1 : Int32).toBitVec = 1#32 from rfl, BitVec.and_one_eq_setWidth_ofBool_getLsbD]
  cases y.toBitVec.getLsbD 0
  · exact ⟨fun h => absurd h (by decide), fun h => absurd h (by decide)⟩
  · exact ⟨fun _ => rfl, fun _ => by decide⟩
theorem bit_t (x : Int32) {i : Nat} (hi : i < 32) : ((x >>> (nI i &&& 31)) &&& 1 = 1) ↔ bt x i = true := by
  rw [and1]
  unfold bt
  rw [shr_bv x hi, BitVec.getLsbD_sshiftRight]
  simp [hi]
theorem bt_and (x y : Int32) (i : Nat) : bt (x &&& y) i = (bt x i && bt y i) := by unfold bt; rw [Int32.toBitVec_and, BitVec.getLsbD_and]
theorem bt_or (x y : Int32) (i : Nat) : bt (x ||| y) i = (bt x i || bt y i) := by unfold bt; rw [Int32.toBitVec_or, BitVec.getLsbD_or]
theorem bt_not (x : Int32) {i : Nat} (hi : i < 32) : bt (x ^^^ (-1)) i = !(bt x i) := by
  unfold bt
  rw [Int32.toBitVec_xor, show (-1 : Int32).toBitVec = BitVec.allOnes 32 from by decide, BitVec.getLsbD_xor, BitVec.getLsbD_allOnes]
  simp [hi]
theorem bt_0 (i : Nat) : bt 0 i = false := by unfold bt; rw [show (0 : Int32).toBitVec = 0#32 from rfl]; exact BitVec.getLsbD_zero
theorem bt_1sh : ∀ j : Nat, j < 12 → ∀ i : Nat, i < 32 → bt (1 <<< (nI j &&& 31)) i = decide (i = j) := by decide +kernel
theorem bt_all : ∀ n : Nat, n < 13 → ∀ i : Nat, i < 32 → bt ((1 <<< (nI n &&& 31)) - 1) i = decide (i < n) := by decide +kernel
theorem bt_eq0 {x : Int32} (h : ∀ i, i < 32 → bt x i = false) : x = 0 := by
  rw [← Int32.toBitVec_inj]
  refine BitVec.eq_of_getLsbD_eq (fun i hi => ?_)
  have e := h i hi
  unfold bt at e
  rw [e, show (0 : Int32).toBitVec = 0#32 from rfl]
  exact BitVec.getLsbD_zero.symm
/-- x holds just the places below n at which P holds -/
def Ms (x : Int32) (n : Nat) (P : Nat → Bool) : Prop := ∀ i, i < 32 → bt x i = (decide (i < n) && P i)
theorem Ms.eq0 {x : Int32} {n : Nat} {P : Nat → Bool} (h : Ms x n P) (hn : n ≤ 12) : x = 0 ↔ ∀ i, i < n → P i = false := by
  constructor
  · rintro rfl i hi
    have e := h i (by omega)
    rw [bt_0, decide_eq_true hi, Bool.true_and] at e
    exact e.symm
  · intro q
    refine bt_eq0 (fun i hi => ?_)
    rw [h i hi]
    by_cases e : i < n
    · rw [q i e, Bool.and_false]
    · rw [decide_eq_false e, Bool.false_and]
theorem Ms.bit {x : Int32} {n : Nat} {P : Nat → Bool} (h : Ms x n P) {i : Nat} (hi : i < n) (hn : n ≤ 12) : ((x >>> (nI i &&& 31)) &&& 1 = 1) ↔ P i = true := by
  rw [bit_t x (by omega), h i (by omega), decide_eq_true hi, Bool.true_and]
theorem ms_all {n : Nat} (hn : n ≤ 12) : Ms ((1 <<< (nI n &&& 31)) - 1) n (fun _ => true) := fun i hi => by rw [bt_all n (by omega) i hi, Bool.and_true]
theorem ms_and_all {n : Nat} (hn : n ≤ 12) (x : Int32) : Ms (x &&& ((1 <<< (nI n &&& 31)) - 1)) n (fun i => bt x i) := fun i hi => by rw [bt_and, bt_all n (by omega) i hi, Bool.and_comm]
theorem Ms.minus {x y : Int32} {n : Nat} {P Q : Nat → Bool} (h : Ms x n P) (k : Ms y n Q) : Ms (x &&& (y ^^^ (-1))) n (fun i => P i && !(Q i)) := fun i hi => by
  rw [bt_and, bt_not y hi, h i hi, k i hi]
  show _ = (decide (i < n) && (P i && !(Q i)))
  cases decide (i < n) <;> cases P i <;> cases Q i <;> rfl
theorem Ms.cut {x : Int32} {n : Nat} {P Q : Nat → Bool} (h : Ms x n P) (e : ∀ i, i < n → P i = Q i) : Ms x n Q := fun i hi => by
  rw [h i hi]
  by_cases q : i < n
  · rw [e i q]
  · rw [decide_eq_false q, Bool.false_and, Bool.false_and]
/-! ===== sheets in numbers ===== -/
def ShOK (ms od yg sheets marsh oldest youngest : A32) (n : Nat) (m o y : Nat → Nat) : Prop := n ≤ 12 ∧ sheets 0 = nI n ∧ ∀ i, i < n → m i ≤ 5 ∧ o i ≤ y i ∧ y i ≤ 9999 ∧ ms i = nI (m i) ∧ marsh i = nI (m i) ∧ od i = nI (o i) ∧ oldest i = nI (o i) ∧ yg i = nI (y i) ∧ youngest i = nI (y i)
theorem RSh.ok {ms od yg sheets marsh oldest youngest : A32} {ct : Int32} (h : RSh 0 ms od yg ct sheets marsh oldest youngest) : ∃ n, ct = nI n ∧ ShOK ms od yg sheets marsh oldest youngest n (fun i => (ms i).toNatClampNeg) (fun i => (od i).toNatClampNeg) (fun i => (yg i).toNatClampNeg) := by
  obtain ⟨n, n1, n2, n3, hn⟩ := h
  refine ⟨n, n2, n1, n3, fun i hi => ?_⟩
  obtain ⟨m, o, y, h1, h2, h3, h4, h5, h6, h7, h8, h9⟩ := hn i hi
  rw [Nat.mul_zero, Nat.zero_add] at h5 h7 h9
  have e1 : (ms i).toNatClampNeg = m := by rw [h4, nI_cl (by omega)]
  have e2 : (od i).toNatClampNeg = o := by rw [h6, nI_cl (by omega)]
  have e3 : (yg i).toNatClampNeg = y := by rw [h8, nI_cl (by omega)]
  simp only [e1, e2, e3]
  exact ⟨h1, h2, h3, h4, h5, h6, h7, h8, h9⟩
/-- the greatest oldest, the least youngest, of a set -/
def mxF (P : Nat → Bool) (o : Nat → Nat) (n : Nat) (s : Nat) : Nat := fold (fun i a => if P i = true then (if a < o i then o i else a) else a) n s
def mnF (P : Nat → Bool) (y : Nat → Nat) (n : Nat) (s : Nat) : Nat := fold (fun i a => if P i = true then (if y i < a then y i else a) else a) n s
def ctF (P : Nat → Bool) (n : Nat) (s : Nat) : Nat := fold (fun i a => if P i = true then a + 1 else a) n s
theorem ctF_le (P : Nat → Bool) : ∀ n s, ctF P n s ≤ s + n
  | 0, s => Nat.le_refl s
  | n + 1, s => by
    show (if P n = true then ctF P n s + 1 else ctF P n s) ≤ s + (n + 1)
    have := ctF_le P n s
    by_cases e : P n = true
    · rw [if_pos e]; omega
    · rw [if_neg e]; omega
theorem ctF_0 (P : Nat → Bool) : ∀ n, ctF P n 0 = 0 ↔ ∀ i, i < n → P i = false
  | 0 => ⟨fun _ i hi => absurd hi (by omega), fun _ => rfl⟩
  | n + 1 => by
    show (if P n = true then ctF P n 0 + 1 else ctF P n 0) = 0 ↔ _
    by_cases e : P n = true
    · rw [if_pos e]
      exact ⟨fun h => by omega, fun h => absurd (h n (by omega)) (by rw [e]; decide)⟩
    · rw [if_neg e, ctF_0 P n]
      refine ⟨fun h i hi => ?_, fun h i hi => h i (by omega)⟩
      by_cases q : i = n
      · subst q; exact Bool.not_eq_true _ ▸ e
      · exact h i (by omega)
theorem mxF_le (P : Nat → Bool) (o : Nat → Nat) {b : Nat} : ∀ (n s : Nat), s ≤ b → (∀ i, i < n → o i ≤ b) → mxF P o n s ≤ b
  | 0, s, h, _ => h
  | n + 1, s, h, k => by
    show (if P n = true then (if mxF P o n s < o n then o n else mxF P o n s) else mxF P o n s) ≤ b
    have h1 := mxF_le P o n s h (fun i hi => k i (by omega))
    have h2 := k n (by omega)
    by_cases e : P n = true
    · rw [if_pos e]
      by_cases q : mxF P o n s < o n
      · rw [if_pos q]; exact h2
      · rw [if_neg q]; exact h1
    · rw [if_neg e]; exact h1
theorem mnF_spec (P : Nat → Bool) (y : Nat → Nat) (s : Nat) : ∀ n : Nat, mnF P y n s ≤ s ∧ (∀ i, i < n → P i = true → mnF P y n s ≤ y i) ∧ (mnF P y n s = s ∨ ∃ i, i < n ∧ P i = true ∧ mnF P y n s = y i)
  | 0 => ⟨Nat.le_refl s, fun i hi => absurd hi (by omega), Or.inl rfl⟩
  | n + 1 => by
    obtain ⟨h1, h2, h3⟩ := mnF_spec P y s n
    have e0 : mnF P y (n + 1) s = (if P n = true then (if y n < mnF P y n s then y n else mnF P y n s) else mnF P y n s) := rfl
    by_cases e : P n = true
    · rw [if_pos e] at e0
      by_cases q : y n < mnF P y n s
      · rw [if_pos q] at e0
        rw [e0]
        refine ⟨by omega, fun i hi hp => ?_, Or.inr ⟨n, by omega, e, rfl⟩⟩
        by_cases z : i = n
        · subst z; exact Nat.le_refl _
        · have := h2 i (by omega) hp; omega
      · rw [if_neg q] at e0
        rw [e0]
        refine ⟨h1, fun i hi hp => ?_, h3.imp id (fun ⟨i, a, b, c⟩ => ⟨i, by omega, b, c⟩)⟩
        by_cases z : i = n
        · subst z; omega
        · exact h2 i (by omega) hp
    · rw [if_neg e] at e0
      rw [e0]
      refine ⟨h1, fun i hi hp => ?_, h3.imp id (fun ⟨i, a, b, c⟩ => ⟨i, by omega, b, c⟩)⟩
      by_cases z : i = n
      · subst z; exact absurd hp e
      · exact h2 i (by omega) hp
theorem mnF_le (P : Nat → Bool) (y : Nat → Nat) (n s : Nat) : mnF P y n s ≤ s := (mnF_spec P y s n).1
theorem ite_le {c : Prop} {i : Decidable c} {a b k : Nat} (h1 : a ≤ k) (h2 : b ≤ k) : (@ite Nat c i a b) ≤ k := by
  by_cases q : c
  · rw [if_pos q]; exact h1
  · rw [if_neg q]; exact h2
theorem first_eq {ms od yg sheets marsh oldest youngest : A32} {n : Nat} {m o y : Nat → Nat} (H : ShOK ms od yg sheets marsh oldest youngest n m o y) {x : Int32} {P : Nat → Bool} (hx : Ms x n P) : f_X6_firstShared x (nI n) od = some (nI (mxF P o n 0)) := by
  obtain ⟨n1, n2, hn⟩ := H
  refine (loop_up (fun fu i (s : Nat) => f_X6_firstShared_4 (nI n) od x fu (nI s) i) (fun i a => if P i = true then (if a < o i then o i else a) else a) (fun s => some (nI s)) (fun _ s => s ≤ 9999) n (by omega) (fun fu s _ => ?_) (fun fu i s hi hs => ?_) 0 (by omega)).1
  · show f_X6_firstShared_4 (nI n) od x (fu + 1) (nI s) (nI n) = _
    rw [f_X6_firstShared_4, pbr_pos (le_t (by omega))]
  · obtain ⟨-, h2, h3, -, -, h6, -⟩ := hn i hi
    by_cases e : P i = true
    · rw [if_pos e]
      refine ⟨?_, ite_le (by omega) hs⟩
      show f_X6_firstShared_4 (nI n) od x (fu + 1) (nI s) (nI i) = f_X6_firstShared_4 (nI n) od x fu (nI (if s < o i then o i else s)) (nI (i + 1))
      rw [f_X6_firstShared_4, pbr_neg (le_f hi), pbr_pos ((hx.bit hi n1).mpr e), pgd_pos (pin_nI (by omega) (by omega))]
      simp only [plt_eq, nI_1, nI_cl (show i < 2147483648 by omega), h6]
      by_cases q : s < o i
      · rw [if_pos q, if_pos (lt_t q)]
      · rw [if_neg q, if_neg (lt_f (by omega))]
    · rw [if_neg e]
      refine ⟨?_, hs⟩
      show f_X6_firstShared_4 (nI n) od x (fu + 1) (nI s) (nI i) = f_X6_firstShared_4 (nI n) od x fu (nI s) (nI (i + 1))
      rw [f_X6_firstShared_4, pbr_neg (le_f hi), pbr_neg (fun q => e ((hx.bit hi n1).mp q))]
      simp only [plt_eq, nI_1]
theorem last_eq {ms od yg sheets marsh oldest youngest : A32} {n : Nat} {m o y : Nat → Nat} (H : ShOK ms od yg sheets marsh oldest youngest n m o y) {x : Int32} {P : Nat → Bool} (hx : Ms x n P) : f_X6_lastShared x (nI n) yg = some (nI (mnF P y n 9999)) := by
  obtain ⟨n1, n2, hn⟩ := H
  refine (loop_up (fun fu i (s : Nat) => f_X6_lastShared_6 (nI n) yg x fu (nI s) i) (fun i a => if P i = true then (if y i < a then y i else a) else a) (fun s => some (nI s)) (fun _ s => s ≤ 9999) n (by omega) (fun fu s _ => ?_) (fun fu i s hi hs => ?_) 9999 (by omega)).1
  · show f_X6_lastShared_6 (nI n) yg x (fu + 1) (nI s) (nI n) = _
    rw [f_X6_lastShared_6, pbr_pos (le_t (by omega))]
  · obtain ⟨-, h2, h3, -, -, -, -, h8, -⟩ := hn i hi
    by_cases e : P i = true
    · rw [if_pos e]
      refine ⟨?_, ite_le h3 hs⟩
      show f_X6_lastShared_6 (nI n) yg x (fu + 1) (nI s) (nI i) = f_X6_lastShared_6 (nI n) yg x fu (nI (if y i < s then y i else s)) (nI (i + 1))
      rw [f_X6_lastShared_6, pbr_neg (le_f hi), pbr_pos ((hx.bit hi n1).mpr e), pgd_pos (pin_nI (by omega) (by omega))]
      simp only [plt_eq, nI_1, nI_cl (show i < 2147483648 by omega), h8]
      have hs' : s ≤ 9999 := hs
      by_cases q : y i < s
      · rw [if_pos q, if_pos (lt_t q)]
      · rw [if_neg q, if_neg (lt_f (by omega))]
    · rw [if_neg e]
      refine ⟨?_, hs⟩
      show f_X6_lastShared_6 (nI n) yg x (fu + 1) (nI s) (nI i) = f_X6_lastShared_6 (nI n) yg x fu (nI s) (nI (i + 1))
      rw [f_X6_lastShared_6, pbr_neg (le_f hi), pbr_neg (fun q => e ((hx.bit hi n1).mp q))]
      simp only [plt_eq, nI_1]
/-- the sheets of a year -/
def atY (o y : Nat → Nat) (t : Nat) (i : Nat) : Bool := decide (o i ≤ t ∧ t ≤ y i)
theorem at_eq {ms od yg sheets marsh oldest youngest : A32} {n : Nat} {m o y : Nat → Nat} (H : ShOK ms od yg sheets marsh oldest youngest n m o y) {t : Nat} (ht : t ≤ 9999) : ∃ x, f_X6_sheetsAt (nI t) (nI n) od yg = some x ∧ Ms x n (atY o y t) := by
  obtain ⟨n1, n2, hn⟩ := H
  have h := loop_up (fun fu i s => f_X6_sheetsAt_4 (nI n) od yg (nI t) fu s i) (fun i a => if atY o y t i = true then a ||| (1 <<< (nI i &&& 31)) else a) some (fun i s => Ms s i (atY o y t)) n (by omega) (fun fu s _ => ?_) (fun fu i s hi hs => ⟨?_, ?_⟩) 0 (fun i _ => by rw [bt_0, decide_eq_false (by omega), Bool.false_and])
  · exact ⟨_, h.1, h.2⟩
  · show f_X6_sheetsAt_4 (nI n) od yg (nI t) (fu + 1) s (nI n) = _
    rw [f_X6_sheetsAt_4, pbr_pos (le_t (by omega))]
  · show f_X6_sheetsAt_4 (nI n) od yg (nI t) (fu + 1) s (nI i) = f_X6_sheetsAt_4 (nI n) od yg (nI t) fu _ (nI (i + 1))
    obtain ⟨-, h2, h3, -, -, h6, -, h8, -⟩ := hn i hi
    rw [f_X6_sheetsAt_4, pbr_neg (le_f hi), pgd_pos (pin_nI (by omega) (by omega))]
    simp only [within_eq, pcl_some, pbr_bI, plt_eq, nI_1, nI_cl (show i < 2147483648 by omega), h6, h8]
    by_cases e : o i ≤ t ∧ t ≤ y i
    · rw [pbr_pos ⟨le_t e.1, le_t e.2⟩, if_pos (show atY o y t i = true from decide_eq_true e)]
    · rw [pbr_neg (fun q => e ⟨(nI_le_iff (by omega) (by omega)).mp q.1, (nI_le_iff (by omega) (by omega)).mp q.2⟩), if_neg (show ¬ atY o y t i = true from fun q => e (of_decide_eq_true q))]
  · intro j hj
    have h0 := hs j hj
    by_cases e : atY o y t i = true
    · rw [if_pos e, bt_or, bt_1sh i (by omega) j hj, h0]
      by_cases q : j = i
      · subst q
        rw [e, decide_eq_true rfl, decide_eq_true (show j < j + 1 by omega), Bool.or_true, Bool.and_true]
      · rw [decide_eq_false q, Bool.or_false]
        by_cases z : j < i
        · rw [decide_eq_true z, decide_eq_true (show j < i + 1 by omega)]
        · rw [decide_eq_false z, decide_eq_false (show ¬ j < i + 1 by omega)]
    · rw [if_neg e, h0]
      by_cases q : j = i
      · subst q
        rw [eq_false_of_ne_true e, Bool.and_false, Bool.and_false]
      · by_cases z : j < i
        · rw [decide_eq_true z, decide_eq_true (show j < i + 1 by omega)]
        · rw [decide_eq_false z, decide_eq_false (show ¬ j < i + 1 by omega)]
theorem or64 : ∀ m : Nat, m < 64 → ∀ j : Nat, j < 6 → nI m ||| (1 <<< (nI j &&& 31)) = nI (m ||| 2 ^ j) ∧ m ||| 2 ^ j < 64 := by decide +kernel
/-- the marshes of a set -/
def maF (P : Nat → Bool) (m : Nat → Nat) (n : Nat) : Nat := fold (fun i a => if P i = true then a ||| 2 ^ m i else a) n 0
theorem maF_lt {P : Nat → Bool} {m : Nat → Nat} : ∀ {n : Nat}, (∀ i, i < n → m i ≤ 5) → maF P m n < 64
  | 0, _ => by show 0 < 64; omega
  | n + 1, h => by
    show (if P n = true then maF P m n ||| 2 ^ m n else maF P m n) < 64
    have h1 := maF_lt (P := P) (n := n) (fun i hi => h i (by omega))
    have h2 := h n (by omega)
    by_cases e : P n = true
    · rw [if_pos e]; exact (or64 _ h1 _ (by omega)).2
    · rw [if_neg e]; exact h1
theorem maOf_eq {ms od yg sheets marsh oldest youngest : A32} {n : Nat} {m o y : Nat → Nat} (H : ShOK ms od yg sheets marsh oldest youngest n m o y) {x : Int32} {P : Nat → Bool} (hx : Ms x n P) : f_X6_marshesOf x (nI n) ms = some (nI (maF P m n)) := by
  obtain ⟨n1, n2, hn⟩ := H
  refine (loop_up (fun fu i (s : Nat) => f_X6_marshesOf_4 (nI n) ms x fu (nI s) i) (fun i a => if P i = true then a ||| 2 ^ m i else a) (fun s => some (nI s)) (fun _ s => s < 64) n (by omega) (fun fu s _ => ?_) (fun fu i s hi hs => ?_) 0 (by omega)).1
  · show f_X6_marshesOf_4 (nI n) ms x (fu + 1) (nI s) (nI n) = _
    rw [f_X6_marshesOf_4, pbr_pos (le_t (by omega))]
  · obtain ⟨h1, -, -, h4, -⟩ := hn i hi
    by_cases e : P i = true
    · rw [if_pos e]
      have hs' : s < 64 := hs
      obtain ⟨o1, o2⟩ := or64 s hs' (m i) (by omega)
      refine ⟨?_, o2⟩
      show f_X6_marshesOf_4 (nI n) ms x (fu + 1) (nI s) (nI i) = f_X6_marshesOf_4 (nI n) ms x fu (nI (s ||| 2 ^ m i)) (nI (i + 1))
      rw [f_X6_marshesOf_4, pbr_neg (le_f hi), pbr_pos ((hx.bit hi n1).mpr e), pgd_pos (pin_nI (by omega) (by omega))]
      simp only [plt_eq, nI_1, nI_cl (show i < 2147483648 by omega), h4, o1]
    · rw [if_neg e]
      refine ⟨?_, hs⟩
      show f_X6_marshesOf_4 (nI n) ms x (fu + 1) (nI s) (nI i) = f_X6_marshesOf_4 (nI n) ms x fu (nI s) (nI (i + 1))
      rw [f_X6_marshesOf_4, pbr_neg (le_f hi), pbr_neg (fun q => e ((hx.bit hi n1).mp q))]
      simp only [plt_eq, nI_1]
theorem maAt_eq {ms od yg sheets marsh oldest youngest : A32} {n : Nat} {m o y : Nat → Nat} (H : ShOK ms od yg sheets marsh oldest youngest n m o y) {t : Nat} (ht : t ≤ 9999) : f_X6_marshesAt (nI t) (nI n) od yg ms = some (nI (maF (atY o y t) m n)) := by
  obtain ⟨x, x1, x2⟩ := at_eq H ht
  unfold f_X6_marshesAt
  rw [x1, pcl_some, maOf_eq H x2, pcl_some]
theorem joinedBy_eq {ms od yg sheets marsh oldest youngest : A32} {n : Nat} {m o y : Nat → Nat} (H : ShOK ms od yg sheets marsh oldest youngest n m o y) {t : Nat} (ht : t ≤ 9999) : f_X12_joinedBy (nI t) sheets oldest youngest marsh = some (nI (maF (atY o y t) m n)) := by
  obtain ⟨n1, n2, hn⟩ := H
  refine (loop_up (fun fu i (s : Nat) => f_X12_joinedBy_4 sheets oldest youngest marsh (nI t) fu (nI s) i) (fun i a => if atY o y t i = true then a ||| 2 ^ m i else a) (fun s => some (nI s)) (fun _ s => s < 64) n (by omega) (fun fu s _ => ?_) (fun fu i s hi hs => ?_) 0 (by omega)).1
  · show f_X12_joinedBy_4 sheets oldest youngest marsh (nI t) (fu + 1) (nI s) (nI n) = _
    rw [f_X12_joinedBy_4, cl_0, n2, pbr_pos (le_t (by omega))]
  · obtain ⟨h1, h2, h3, -, h5, -, h7, -, h9⟩ := hn i hi
    have hs' : s < 64 := hs
    obtain ⟨o1, o2⟩ := or64 s hs' (m i) (by omega)
    have z0 : nI s ||| (0 : Int32) = nI s := Int32.or_zero
    have st : f_X12_joinedBy_4 sheets oldest youngest marsh (nI t) (fu + 1) (nI s) (nI i) = pbr (nI (o i) ≤ nI t ∧ nI t ≤ nI (y i)) (f_X12_joinedBy_4 sheets oldest youngest marsh (nI t) fu (nI (s ||| 2 ^ m i)) (nI (i + 1))) (f_X12_joinedBy_4 sheets oldest youngest marsh (nI t) fu (nI s) (nI (i + 1))) := by
      rw [f_X12_joinedBy_4, cl_0, n2, pbr_neg (le_f hi), pgd_pos (pin_nI (by omega) (by omega))]
      simp only [in_eq, pcl_some, pbr_bI, f_X12_joinedBy_46, plt_eq, nI_1, nI_cl (show i < 2147483648 by omega), h5, h7, h9, o1, z0]
    by_cases e : o i ≤ t ∧ t ≤ y i
    · rw [if_pos (show atY o y t i = true from decide_eq_true e)]
      exact ⟨st.trans (pbr_pos ⟨le_t e.1, le_t e.2⟩), o2⟩
    · rw [if_neg (show ¬ atY o y t i = true from fun q => e (of_decide_eq_true q))]
      exact ⟨st.trans (pbr_neg (fun q => e ⟨(nI_le_iff (by omega) (by omega)).mp q.1, (nI_le_iff (by omega) (by omega)).mp q.2⟩)), hs⟩
theorem op_joined {ms od yg sheets marsh oldest youngest : A32} {ct : Int32} (h : RSh 0 ms od yg ct sheets marsh oldest youngest) (x : Int32) : ∃ r, f_X11_joined x ct od yg ms = some r ∧ f_X12_joined x sheets oldest youngest marsh = some r := by
  obtain ⟨n, rfl, H⟩ := h.ok
  unfold f_X11_joined f_X12_joined
  simp only [isYear_eq, in_eq, pcl_some, pbr_bI]
  by_cases c : 0 ≤ x ∧ x ≤ 9999
  · obtain ⟨t, -, ht, rfl⟩ := of_span (a := 0) (b := 9999) (by omega) (by omega) c.1 c.2
    rw [pbr_pos c, pbr_pos c, maAt_eq H ht, joinedBy_eq H ht]
    exact ⟨_, rfl, rfl⟩
  · rw [pbr_neg c, pbr_neg c]
    exact ⟨_, rfl, rfl⟩
