/-! ===== books against waves ===== -/
/-- the height -/
def hN (d : Nat → Nat) (f k s c : Nat) : Nat := if 2 < d c then s * f / (f + k) else 2 * (s * f / (f + k))
theorem hgt_eq {dp md : A32} {pc fd : Int32} {tu : A32} {d : Nat → Nat} {p f : Nat} (H : OcOK dp md pc tu d p) (hf : 1 ≤ f ∧ f ≤ 999 ∧ fd = nI f ∧ tu 1 = nI f) {b k s : Nat} (hb : b < 48) (hk : k ≤ 300000) (hs : s ≤ 99) (hsea : 0 < d b) {far : A32} (hfar : far b = nI k) : hN d f k s b ≤ 198 ∧ f_X4_swell (nI k) (nI s) (nI b) fd dp = some (nI (hN d f k s b)) ∧ f_X12_heightAt (nI s) (nI b) tu far md = some (nI (hN d f k s b)) := by
  obtain ⟨f1, f2, rfl, f3⟩ := hf
  obtain ⟨d1, d2, d3⟩ := H.1 b hb
  have hsf : s * f ≤ 99 * 999 := Nat.mul_le_mul hs f2
  have hdv : s * f / (f + k) ≤ s := by
    refine Nat.div_le_of_le_mul ?_
    rw [Nat.mul_comm (f + k) s]
    exact Nat.mul_le_mul_left s (by omega)
  have e1 : nI s * nI f / (nI f + nI k) = nI (s * f / (f + k)) := by rw [nI_mul, nI_add, pk_div (by omega) (by omega) (by omega)]
  have nz : ¬ nI f + nI k = 0 := by rw [nI_add]; exact eq_f (b := 0) (by omega)
  have e2 : (2 : Int32) * nI (s * f / (f + k)) = nI (2 * (s * f / (f + k))) := nI_mul 2 _
  have ps : (0 : Int32) < nI f + nI k := by rw [nI_add]; exact lt_t (a := 0) (by omega)
  have ng : ¬ nI k < (0 : Int32) := lt_f (b := 0) (by omega)
  unfold f_X4_swell f_X12_heightAt hN
  simp only [pgd_pos (pin_nI hb (show 48 < 2147483648 by omega)), pgd_pos (pin_nI (show b < 96 by omega) (show 96 < 2147483648 by omega)), nI_cl (show b < 2147483648 by omega), cl_1, f3, hfar, d2, d3, plt_eq, e1, e2, in_eq, pcl_some, pbr_bI]
  rw [pbr_neg ng, pbr_pos ps, pgd_pos nz, pgd_pos nz]
  by_cases g : 2 < d b
  · rw [pbr_pos (show (2 : Int32) < nI (d b) from lt_t (a := 2) g), pbr_neg (show ¬ ((1 : Int32) ≤ nI (d b) ∧ nI (d b) ≤ 2) from fun q => absurd ((nI_le_iff (b := 2) (by omega) (by omega)).mp q.2) (by omega)), if_pos g]
    exact ⟨by omega, rfl, rfl⟩
  · rw [pbr_neg (show ¬ (2 : Int32) < nI (d b) from lt_f (a := 2) (by omega)), pbr_pos (show (1 : Int32) ≤ nI (d b) ∧ nI (d b) ≤ 2 from ⟨le_t (a := 1) hsea, le_t (b := 2) (by omega)⟩), if_neg g]
    exact ⟨by omega, rfl, rfl⟩
/-- books, in numbers -/
def BkOK (cl fr to lo hi books told : A32) (n : Nat) (cN : Nat → Nat) : Prop := n ≤ 6 ∧ books 0 = nI n ∧ ∀ b, b < n → cN b < 48 ∧ cl b = nI (cN b) ∧ told (5 * b) = nI (cN b) ∧ fr b = told (5 * b + 1) ∧ to b = told (5 * b + 2) ∧ lo b = told (5 * b + 3) ∧ hi b = told (5 * b + 4) ∧ (-9999 ≤ (fr b).toInt ∧ (fr b).toInt ≤ (to b).toInt ∧ (to b).toInt ≤ 9999) ∧ (0 ≤ (lo b).toInt ∧ (lo b).toInt ≤ (hi b).toInt ∧ (hi b).toInt ≤ 999)
theorem RBk.ok {cl fr to lo hi books told : A32} {ct : Int32} (h : RBk 0 cl fr to lo hi ct books told) : ∃ n, ct = nI n ∧ BkOK cl fr to lo hi books told n (fun b => (cl b).toNatClampNeg) := by
  obtain ⟨n, n1, n2, n3, hn⟩ := h
  refine ⟨n, n2, n1, n3, fun b hb => ?_⟩
  obtain ⟨⟨c, c1, c2, c3⟩, h1, h2, h3, h4, h5, h6⟩ := hn b hb
  rw [Nat.mul_zero, Nat.zero_add] at c3 h1 h2 h3 h4
  have e : (cl b).toNatClampNeg = c := by rw [c2, nI_cl (by omega)]
  simp only [e]
  exact ⟨c1, c2, c3, h1, h2, h3, h4, h5, h6⟩
/-- the times from cell a to each book, on both sides -/
def TmOK (d : Nat → Nat) (n : Nat) (cN : Nat → Nat) (times : G32) (far : A32) (a : Nat) (t : Nat → Option Nat) : Prop := a < 48 ∧ ∀ b, b < n → times b a = encC (t b) ∧ far (cN b) = encM (t b) ∧ ∀ k, t b = some k → k ≤ 300000 ∧ 0 < d (cN b)
/-- a wave of size s fits book b -/
def fitB (d : Nat → Nat) (f : Nat) (cN : Nat → Nat) (lo hi : A32) (t : Nat → Option Nat) (s b : Nat) : Prop := ∃ k, t b = some k ∧ lo b ≤ nI (hN d f k s (cN b)) ∧ nI (hN d f k s (cN b)) ≤ hi b
def fitA (d : Nat → Nat) (f : Nat) (cN : Nat → Nat) (lo hi : A32) (t : Nat → Option Nat) (n s : Nat) : Prop := ∀ b, b < n → fitB d f cN lo hi t s b
theorem fits_eq {dp md : A32} {pc fd : Int32} {tu : A32} {d : Nat → Nat} {p f : Nat} (H : OcOK dp md pc tu d p) (hf : 1 ≤ f ∧ f ≤ 999 ∧ fd = nI f ∧ tu 1 = nI f) {cl fr to lo hi books told : A32} {n : Nat} {cN : Nat → Nat} (K : BkOK cl fr to lo hi books told n cN) {times : G32} {far : A32} {a : Nat} {t : Nat → Option Nat} (T : TmOK d n cN times far a t) {s : Nat} (hs : s ≤ 99) : ∀ (c i fu : Nat), i + c = n → c < fu → ((∀ b, i ≤ b → b < n → fitB d f cN lo hi t s b) ∧ f_X5_heightsFit_2 (nI n) cl fd dp lo hi times (nI a) (nI s) fu (nI i) = some 1) ∨ ((¬ ∀ b, i ≤ b → b < n → fitB d f cN lo hi t s b) ∧ f_X5_heightsFit_2 (nI n) cl fd dp lo hi times (nI a) (nI s) fu (nI i) = some 0)
  | 0, i, fu, h, hfu => by
    obtain ⟨fu', rfl⟩ : ∃ f, fu = f + 1 := ⟨fu - 1, by omega⟩
    have K' := K.1
    refine Or.inl ⟨fun b h1 h2 => absurd h2 (by omega), ?_⟩
    rw [f_X5_heightsFit_2, pbr_pos (le_t (by omega))]
  | c + 1, i, fu, h, hfu => by
    obtain ⟨fu', rfl⟩ : ∃ f, fu = f + 1 := ⟨fu - 1, by omega⟩
    have K' := K
    have T' := T
    obtain ⟨n1, -, hn⟩ := K'
    obtain ⟨b1, b2, -, -, -, -, -, -, b9⟩ := hn i (by omega)
    obtain ⟨ha, hT⟩ := T'
    obtain ⟨t1, t2, t3⟩ := hT i (by omega)
    rw [f_X5_heightsFit_2, pbr_neg (le_f (by omega)), pgd_pos (pin_nI (by omega) (by omega)), pgd_pos (pin_nI ha (by omega))]
    simp only [nI_cl (show i < 2147483648 by omega), nI_cl (show a < 2147483648 by omega), t1, b2, plt_eq, nI_1]
    cases hv : t i with
    | none =>
      refine Or.inr ⟨fun q => ?_, ?_⟩
      · obtain ⟨k, k1, -⟩ := q i (Nat.le_refl i) (by omega)
        rw [hv] at k1
        exact nomatch k1
      · rw [show encC none = (-9 : Int32) from rfl, swell_none, pcl_some, pbr_pos (by rw [i_lt, show (-9 : Int32).toInt = -9 by decide]; omega)]
    | some k =>
      obtain ⟨k1, k2⟩ := t3 k hv
      have hfar : far (cN i) = nI k := by rw [t2, hv]; rfl
      obtain ⟨g1, g2, -⟩ := hgt_eq H hf b1 k1 hs k2 hfar
      rw [show encC (some k) = nI k from rfl, g2, pcl_some]
      by_cases e1 : lo i ≤ nI (hN d f k s (cN i))
      · rw [pbr_neg (fun q => by rw [i_lt] at q; rw [i_le] at e1; omega)]
        by_cases e2 : nI (hN d f k s (cN i)) ≤ hi i
        · rw [pbr_pos e2]
          have hfit : fitB d f cN lo hi t s i := ⟨k, hv, e1, e2⟩
          rcases fits_eq H hf K T hs c (i + 1) fu' (by omega) (by omega) with ⟨q1, q2⟩ | ⟨q1, q2⟩
          · refine Or.inl ⟨fun b h1 h2 => ?_, q2⟩
            by_cases z : b = i
            · subst z; exact hfit
            · exact q1 b (by omega) h2
          · exact Or.inr ⟨fun q => q1 (fun b h1 h2 => q b (by omega) h2), q2⟩
        · rw [pbr_neg e2]
          refine Or.inr ⟨fun q => ?_, rfl⟩
          obtain ⟨j, j1, -, j3⟩ := q i (Nat.le_refl i) (by omega)
          rw [hv] at j1
          have := Option.some.inj j1
          subst this
          exact e2 j3
      · rw [pbr_pos (by rw [i_lt]; rw [i_le] at e1; omega)]
        refine Or.inr ⟨fun q => ?_, rfl⟩
        obtain ⟨j, j1, j2, -⟩ := q i (Nat.le_refl i) (by omega)
        rw [hv] at j1
        have := Option.some.inj j1
        subst this
        exact e1 j2
