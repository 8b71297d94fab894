/-! ===== pure programs read forwards ===== -/
theorem pgd_pos {α : Type} {c : Prop} {i : Decidable c} {k : Option α} (h : c) : @pgd α c i k = k := by unfold pgd; exact if_pos h
theorem pbr_pos {α : Type} {c : Prop} {i : Decidable c} {a b : Option α} (h : c) : @pbr α c i a b = a := by unfold pbr; exact if_pos h
theorem pbr_neg {α : Type} {c : Prop} {i : Decidable c} {a b : Option α} (h : ¬ c) : @pbr α c i a b = b := by unfold pbr; exact if_neg h
theorem pcl_some {α β : Type} (v : α) (k : α → Option β) : pcl (some v) k = k v := rfl
theorem plt_eq {α β : Type} (x : α) (k : α → β) : plt x k = k x := rfl
/-- a boolean as the machine has it -/
def bI (c : Prop) [Decidable c] : Int32 := if c then 1 else 0
theorem bI_pos {c : Prop} {i : Decidable c} (h : c) : @bI c i = 1 := by unfold bI; exact if_pos h
theorem bI_neg {c : Prop} {i : Decidable c} (h : ¬ c) : @bI c i = 0 := by unfold bI; exact if_neg h
theorem bI_0 {c : Prop} {i : Decidable c} : (@bI c i = 0) ↔ ¬ c := by
  by_cases h : c
  · rw [bI_pos h]; exact ⟨fun q => absurd q (by decide), fun q => absurd h q⟩
  · rw [bI_neg h]; exact ⟨fun _ => h, fun _ => rfl⟩
theorem bI_01 {c : Prop} {i : Decidable c} : @bI c i = 0 ∨ @bI c i = 1 := by
  by_cases h : c
  · rw [bI_pos h]; exact Or.inr rfl
  · rw [bI_neg h]; exact Or.inl rfl
theorem pgd_bI {α : Type} {c : Prop} {i : Decidable c} {j : Decidable (@bI c i = 0 ∨ @bI c i = 1)} {k : Option α} : @pgd α (@bI c i = 0 ∨ @bI c i = 1) j k = k := pgd_pos bI_01
theorem pbr_bI {α : Type} {c : Prop} {i : Decidable c} {j : Decidable (@bI c i = 0)} {a b : Option α} : @pbr α (@bI c i = 0) j a b = @pbr α c i b a := by
  by_cases h : c
  · rw [pbr_neg (fun q => bI_0.mp q h), pbr_pos h]
  · rw [pbr_pos (bI_0.mpr h), pbr_neg h]
/-! ===== numbers ===== -/
theorem i_lt {a b : Int32} : a < b ↔ a.toInt < b.toInt := Int32.lt_iff_toInt_lt
theorem i_le {a b : Int32} : a ≤ b ↔ a.toInt ≤ b.toInt := Int32.le_iff_toInt_le
theorem i_eq {a b : Int32} : a = b ↔ a.toInt = b.toInt := Int32.toInt_inj.symm
theorem i_rng (x : Int32) : -2147483648 ≤ x.toInt ∧ x.toInt < 2147483648 := by
  have h1 := Int32.le_toInt x
  have h2 := Int32.toInt_lt x
  exact ⟨by simpa using h1, by simpa using h2⟩
theorem i_add {x y : Int32} (h1 : -2147483648 ≤ x.toInt + y.toInt) (h2 : x.toInt + y.toInt < 2147483648) : (x + y).toInt = x.toInt + y.toInt := by
  rw [Int32.toInt_add]
  exact Int.bmod_eq_of_le (by simpa using h1) (by simpa using h2)
theorem i_sub {x y : Int32} (h1 : -2147483648 ≤ x.toInt - y.toInt) (h2 : x.toInt - y.toInt < 2147483648) : (x - y).toInt = x.toInt - y.toInt := by
  rw [Int32.toInt_sub]
  exact Int.bmod_eq_of_le (by simpa using h1) (by simpa using h2)
theorem i_mul {x y : Int32} (h1 : -2147483648 ≤ x.toInt * y.toInt) (h2 : x.toInt * y.toInt < 2147483648) : (x * y).toInt = x.toInt * y.toInt := by
  rw [Int32.toInt_mul]
  exact Int.bmod_eq_of_le (by simpa using h1) (by simpa using h2)
theorem nI_int {a : Nat} (h : a < 2147483648) : (nI a).toInt = a := nI_toInt (by simpa using h)
theorem nI_cl {a : Nat} (h : a < 2147483648) : (nI a).toNatClampNeg = a := nI_clamp (by simpa using h)
theorem nI_le_iff {a b : Nat} (ha : a < 2147483648) (hb : b < 2147483648) : nI a ≤ nI b ↔ a ≤ b := nI_leI (by simpa using ha) (by simpa using hb)
theorem nI_lt_iff {a b : Nat} (ha : a < 2147483648) (hb : b < 2147483648) : nI a < nI b ↔ a < b := nI_ltI (by simpa using ha) (by simpa using hb)
theorem nI_eq_iff {a b : Nat} (ha : a < 2147483648) (hb : b < 2147483648) : nI a = nI b ↔ a = b := nI_eq (by simpa using ha) (by simpa using hb)
theorem pin_nI {a n : Nat} (h : a < n) (hn : n < 2147483648) : pin (nI a) n := vp_in_nI h (by simpa using hn)
theorem nI_sub {a b : Nat} (h : b ≤ a) : nI a - nI b = nI (a - b) := pk_sub h
theorem nI_mul (a b : Nat) : nI a * nI b = nI (a * b) := pk_mul a b
/-- an int in a span that begins at 0 or above is a natural number -/
theorem of_span {x : Int32} {a b : Nat} (hb : b < 2147483648) (hab : a ≤ b) (h1 : nI a ≤ x) (h2 : x ≤ nI b) : ∃ j : Nat, a ≤ j ∧ j ≤ b ∧ x = nI j := by
  rw [i_le] at h1 h2
  rw [nI_int (by omega)] at h1
  rw [nI_int hb] at h2
  refine ⟨x.toInt.toNat, by omega, by omega, ?_⟩
  rw [i_eq, nI_int (by omega)]
  omega
theorem in_span {j a b : Nat} (hb : b < 2147483648) (h1 : a ≤ j) (h2 : j ≤ b) : nI a ≤ nI j ∧ nI j ≤ nI b := ⟨(nI_le_iff (by omega) (by omega)).mpr h1, (nI_le_iff (by omega) (by omega)).mpr h2⟩
/-! ===== a loop that counts up ===== -/
def fold {σ : Type} (st : Nat → σ → σ) : Nat → σ → σ
  | 0, s => s
  | n + 1, s => st n (fold st n s)
/-- from place i on, d steps -/
def foldI {σ : Type} (st : Nat → σ → σ) : Nat → Nat → σ → σ
  | _, 0, s => s
  | i, d + 1, s => foldI st (i + 1) d (st i s)
theorem foldI_snoc {σ : Type} (st : Nat → σ → σ) : ∀ (d i : Nat) (s : σ), foldI st i (d + 1) s = st (i + d) (foldI st i d s)
  | 0, i, s => rfl
  | d + 1, i, s => by
    show foldI st (i + 1) (d + 1) (st i s) = _
    rw [foldI_snoc st d (i + 1) (st i s), show i + 1 + d = i + (d + 1) by omega]
    rfl
theorem foldI_fold {σ : Type} (st : Nat → σ → σ) : ∀ (n : Nat) (s : σ), foldI st 0 n s = fold st n s
  | 0, s => rfl
  | n + 1, s => by rw [foldI_snoc, foldI_fold st n s, Nat.zero_add]; rfl
/-- a loop of a pure program, its counter first: its end, and each of its steps -/
theorem loop_upI {σ β : Type} (L : Nat → Int32 → σ → Option β) (st : Nat → σ → σ) (E : σ → Option β) (I : Nat → σ → Prop) (N : Nat) (hx : ∀ k s, I N s → L (k + 1) (nI N) s = E s) (hs : ∀ k i s, i < N → I i s → L (k + 1) (nI i) s = L k (nI (i + 1)) (st i s) ∧ I (i + 1) (st i s)) :
    ∀ (d i k : Nat) (s : σ), i + d = N → d < k → I i s → L k (nI i) s = E (foldI st i d s) ∧ I N (foldI st i d s)
  | 0, i, k, s, h, hk, hI => by
    have e : i = N := by omega
    subst e
    obtain ⟨k', rfl⟩ : ∃ k', k = k' + 1 := ⟨k - 1, by omega⟩
    exact ⟨hx k' s hI, hI⟩
  | d + 1, i, k, s, h, hk, hI => by
    obtain ⟨k', rfl⟩ : ∃ k', k = k' + 1 := ⟨k - 1, by omega⟩
    obtain ⟨h1, h2⟩ := hs k' i s (by omega) hI
    rw [h1]
    exact loop_upI L st E I N hx hs d (i + 1) k' (st i s) (by omega) (by omega) h2
theorem FU_big : 100000000 < FU := by unfold FU; decide
theorem loop_up {σ β : Type} (L : Nat → Int32 → σ → Option β) (st : Nat → σ → σ) (E : σ → Option β) (I : Nat → σ → Prop) (N : Nat) (hN : N ≤ 100000000) (hx : ∀ k s, I N s → L (k + 1) (nI N) s = E s) (hs : ∀ k i s, i < N → I i s → L (k + 1) (nI i) s = L k (nI (i + 1)) (st i s) ∧ I (i + 1) (st i s)) (s : σ) (h0 : I 0 s) :
    L FU (nI 0) s = E (fold st N s) ∧ I N (fold st N s) := by
  have h := loop_upI L st E I N hx hs N 0 FU s (by omega) (by have := FU_big; omega) h0
  rw [foldI_fold] at h
  exact h
/-- the same without an invariant -/
theorem loop_up0 {σ β : Type} (L : Nat → Int32 → σ → Option β) (st : Nat → σ → σ) (E : σ → Option β) (N : Nat) (hN : N ≤ 100000000) (hx : ∀ k s, L (k + 1) (nI N) s = E s) (hs : ∀ k i s, i < N → L (k + 1) (nI i) s = L k (nI (i + 1)) (st i s)) (s : σ) : L FU (nI 0) s = E (fold st N s) :=
  (loop_up L st E (fun _ _ => True) N hN (fun k s _ => hx k s) (fun k i s h _ => ⟨hs k i s h, trivial⟩) s trivial).1
theorem fold_congr {σ : Type} {f g : Nat → σ → σ} : ∀ {n : Nat}, (∀ i, i < n → ∀ s, f i s = g i s) → ∀ s, fold f n s = fold g n s
  | 0, _, s => rfl
  | n + 1, h, s => by
    show f n (fold f n s) = g n (fold g n s)
    rw [fold_congr (fun i hi => h i (by omega)) s, h n (by omega)]
theorem fold_rel {σ τ : Type} {f : Nat → σ → σ} {g : Nat → τ → τ} {R : Nat → σ → τ → Prop} {a : σ} {b : τ} (h0 : R 0 a b) : ∀ {n : Nat}, (∀ i, i < n → ∀ s t, R i s t → R (i + 1) (f i s) (g i t)) → R n (fold f n a) (fold g n b)
  | 0, _ => h0
  | n + 1, h => h n (by omega) _ _ (fold_rel h0 (fun i hi => h i (by omega)))
theorem fold_inv {σ : Type} {f : Nat → σ → σ} {I : Nat → σ → Prop} {a : σ} (h0 : I 0 a) : ∀ {n : Nat}, (∀ i, i < n → ∀ s, I i s → I (i + 1) (f i s)) → I n (fold f n a)
  | 0, _ => h0
  | n + 1, h => h n (by omega) _ (fold_inv h0 (fun i hi => h i (by omega)))
/-! ===== the tests of numbers ===== -/
theorem within_eq (x a b : Int32) : f_X11_within x a b = some (bI (a ≤ x ∧ x ≤ b)) := by
  unfold f_X11_within
  by_cases h1 : x < a
  · rw [pbr_pos h1, bI_neg (fun q => by rw [i_lt] at h1; have := q.1; rw [i_le] at this; omega)]
  · rw [pbr_neg h1]
    by_cases h2 : b < x
    · rw [pbr_pos h2, bI_neg (fun q => by rw [i_lt] at h2; have := q.2; rw [i_le] at this; omega)]
    · rw [pbr_neg h2, bI_pos ⟨by rw [i_lt] at h1; rw [i_le]; omega, by rw [i_lt] at h2; rw [i_le]; omega⟩]
theorem in_eq (x a b : Int32) : f_X12_in x a b = some (bI (a ≤ x ∧ x ≤ b)) := within_eq x a b
theorem isSpan_eq (x0 x1 x2 x3 : Int32) : f_X11_isSpan x0 x1 x2 x3 = some (bI (x2 ≤ x0 ∧ x0 ≤ x1 ∧ x1 ≤ x3)) := by
  unfold f_X11_isSpan
  by_cases h1 : x0 < x2
  · rw [pbr_pos h1, bI_neg (fun q => by rw [i_lt] at h1; have := q.1; rw [i_le] at this; omega)]
  · rw [pbr_neg h1]
    by_cases h2 : x1 < x0
    · rw [pbr_pos h2, bI_neg (fun q => by rw [i_lt] at h2; have := q.2.1; rw [i_le] at this; omega)]
    · rw [pbr_neg h2]
      by_cases h3 : x3 < x1
      · rw [pbr_pos h3, bI_neg (fun q => by rw [i_lt] at h3; have := q.2.2; rw [i_le] at this; omega)]
      · rw [pbr_neg h3, bI_pos ⟨by rw [i_lt] at h1; rw [i_le]; omega, by rw [i_lt] at h2; rw [i_le]; omega, by rw [i_lt] at h3; rw [i_le]; omega⟩]
theorem isBit_eq (x : Int32) : f_X11_isBit x = some (bI (x = 0 ∨ x = 1)) := by
  unfold f_X11_isBit
  by_cases h1 : x = 0
  · rw [pbr_pos h1, bI_pos (Or.inl h1)]
  · rw [pbr_neg h1]
    by_cases h2 : x = 1
    · rw [pbr_pos h2, bI_pos (Or.inr h2)]
    · rw [pbr_neg h2, bI_neg (fun q => q.elim h1 h2)]
theorem isCell_eq (x : Int32) : f_X11_isCell x = some (bI (0 ≤ x ∧ x ≤ 47)) := by unfold f_X11_isCell; rw [within_eq, pcl_some, pgd_bI]
theorem isSize_eq (x : Int32) : f_X11_isSize x = some (bI (1 ≤ x ∧ x ≤ 99)) := by unfold f_X11_isSize; rw [within_eq, pcl_some, pgd_bI]
theorem isYear_eq (x : Int32) : f_X11_isYear x = some (bI (0 ≤ x ∧ x ≤ 9999)) := by unfold f_X11_isYear; rw [within_eq, pcl_some, pgd_bI]
theorem isWood_eq (x : Int32) : f_X11_isWood x = some (bI (0 ≤ x ∧ x ≤ 3)) := by unfold f_X11_isWood; rw [within_eq, pcl_some, pgd_bI]
theorem isWidth_eq (x : Int32) : f_X11_isWidth x = some (bI (0 ≤ x ∧ x ≤ 99)) := by unfold f_X11_isWidth; rw [within_eq, pcl_some, pgd_bI]
theorem isMarsh_eq (x : Int32) : f_X11_isMarsh x = some (bI (0 ≤ x ∧ x ≤ 5)) := by unfold f_X11_isMarsh; rw [within_eq, pcl_some, pgd_bI]
theorem isStory_eq (x : Int32) : f_X11_isStory x = some (bI (0 ≤ x ∧ x ≤ 4)) := by unfold f_X11_isStory; rw [within_eq, pcl_some, pgd_bI]
theorem isImage_eq (x : Int32) : f_X11_isImage x = some (bI (0 ≤ x ∧ x ≤ 1)) := by unfold f_X11_isImage; rw [within_eq, pcl_some, pgd_bI]
theorem mCell_eq (x : Int32) : f_X12_isCell x = some (bI (0 ≤ x ∧ x ≤ 47)) := by unfold f_X12_isCell; rw [in_eq, pcl_some, pgd_bI]
theorem mDigit_eq (x : Int32) : f_X12_isDigit x = some (bI (48 ≤ x ∧ x ≤ 57)) := by unfold f_X12_isDigit; rw [in_eq, pcl_some, pgd_bI]
theorem mWood_eq (x : Int32) : f_X12_isWood x = some (bI (0 ≤ x ∧ x ≤ 3)) := by unfold f_X12_isWood; rw [in_eq, pcl_some, pgd_bI]
theorem mStory_eq (x : Int32) : f_X12_isStory x = some (bI (0 ≤ x ∧ x ≤ 4)) := by unfold f_X12_isStory; rw [in_eq, pcl_some, pgd_bI]
theorem bit_span (x : Int32) : (x = 0 ∨ x = 1) ↔ (0 ≤ x ∧ x ≤ 1) := by
  rw [i_le, i_le, i_eq, i_eq]
  have h0 : (0 : Int32).toInt = 0 := by decide
  have h1 : (1 : Int32).toInt = 1 := by decide
  rw [h0, h1]
  omega
