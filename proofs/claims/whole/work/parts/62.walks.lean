/-! ===== a way is walked both ways round ===== -/
/-- a way of n steps from a to b: each cell that is entered costs w -/
def PP (sea : Nat → Prop) (w : Nat → Nat) : Nat → Nat → Nat → Nat → Prop
  | 0, a, b, k => a = b ∧ a < 48 ∧ sea a ∧ k = 0
  | n + 1, a, b, k => ∃ u q, PP sea w n a u q ∧ b < 48 ∧ adj b u ∧ sea b ∧ k = q + w b
theorem PP_end {sea : Nat → Prop} {w : Nat → Nat} : ∀ {n a b k : Nat}, PP sea w n a b k → b < 48 ∧ sea b
  | 0, a, b, k, h => by obtain ⟨rfl, h1, h2, -⟩ := h; exact ⟨h1, h2⟩
  | n + 1, a, b, k, h => by obtain ⟨u, q, -, h1, -, h2, -⟩ := h; exact ⟨h1, h2⟩
theorem PP_front {sea : Nat → Prop} {w : Nat → Nat} : ∀ {n a u b k : Nat}, a < 48 → adj a u → sea a → PP sea w n u b k → PP sea w (n + 1) a b (k + w u)
  | 0, a, u, b, k, ha, hd, hs, h => by
    obtain ⟨rfl, h1, h2, rfl⟩ := h
    exact ⟨a, 0, ⟨rfl, ha, hs, rfl⟩, h1, adj_sym ha hd, h2, rfl⟩
  | n + 1, a, u, b, k, ha, hd, hs, h => by
    obtain ⟨x, q, h1, h2, h3, h4, rfl⟩ := h
    exact ⟨x, q + w u, PP_front ha hd hs h1, h2, h3, h4, by omega⟩
theorem PP_split {sea : Nat → Prop} {w : Nat → Nat} : ∀ {n a b k : Nat}, PP sea w (n + 1) a b k → ∃ u q, a < 48 ∧ adj a u ∧ sea a ∧ PP sea w n u b q ∧ k = q + w u
  | 0, a, b, k, h => by
    obtain ⟨u, q, ⟨rfl, h1, h2, rfl⟩, h3, h4, h5, rfl⟩ := h
    exact ⟨b, 0, h1, adj_sym h3 h4, h2, ⟨rfl, h3, h5, rfl⟩, rfl⟩
  | n + 1, a, b, k, h => by
    obtain ⟨x, q, h1, h2, h3, h4, rfl⟩ := h
    obtain ⟨u, r, g1, g2, g3, g4, rfl⟩ := PP_split h1
    exact ⟨u, r + w b, g1, g2, g3, ⟨x, r, g4, h2, h3, h4, rfl⟩, by omega⟩
/-- the class's ways: towards the goal -/
theorem Wk_class {sea : Nat → Prop} {w : Nat → Nat} {g : Nat} : ∀ {n c k : Nat}, Wk (fun c => c = g ∧ c < 48 ∧ sea c) sea (fun _ u => w u) n c k ↔ PP sea w n c g k
  | 0, c, k => ⟨fun h => ⟨h.1.1, h.1.2.1, h.1.2.2, h.2⟩, fun h => ⟨⟨h.1, h.2.1, h.2.2.1⟩, h.2.2.2⟩⟩
  | n + 1, c, k => by
    constructor
    · rintro ⟨u, q, h1, h2, h3, h4, rfl⟩
      exact PP_front h2 h3 h4 (Wk_class.mp h1)
    · intro h
      obtain ⟨u, q, h1, h2, h3, h4, rfl⟩ := PP_split h
      exact ⟨u, q, Wk_class.mpr h4, h1, h2, h3, rfl⟩
/-- the model's ways: from the beginnings -/
theorem Wk_model {S sea : Nat → Prop} {w : Nat → Nat} (hS : ∀ c, S c → c < 48 ∧ sea c) : ∀ {n b k : Nat}, Wk S sea (fun c _ => w c) n b k ↔ ∃ a, S a ∧ PP sea w n a b k
  | 0, b, k => ⟨fun h => ⟨b, h.1, rfl, (hS b h.1).1, (hS b h.1).2, h.2⟩, fun ⟨a, h1, h2, h3, h4, h5⟩ => ⟨h2 ▸ h1, h5⟩⟩
  | n + 1, b, k => by
    constructor
    · rintro ⟨u, q, h1, h2, h3, h4, rfl⟩
      obtain ⟨a, a1, a2⟩ := (Wk_model hS).mp h1
      exact ⟨a, a1, u, q, a2, h2, h3, h4, rfl⟩
    · rintro ⟨a, a1, u, q, h1, h2, h3, h4, rfl⟩
      exact ⟨u, q, (Wk_model hS).mpr ⟨a, a1, h1⟩, h2, h3, h4, rfl⟩
/-- the TIME from a to b, if there is one -/
def Dist (sea : Nat → Prop) (w : Nat → Nat) (a b k : Nat) : Prop := (∃ n, PP sea w n a b k) ∧ ∀ n q, PP sea w n a b q → k ≤ q
theorem Dist_unique {sea : Nat → Prop} {w : Nat → Nat} {a b k q : Nat} (h1 : Dist sea w a b k) (h2 : Dist sea w a b q) : k = q := by
  obtain ⟨⟨n, hn⟩, h1'⟩ := h1
  obtain ⟨⟨m, hm⟩, h2'⟩ := h2
  have a := h1' m q hm
  have b := h2' n k hn
  omega
/-- a loop whose steps are known only by what they keep -/
theorem loop_ex {σ β : Type} (L : Nat → Int32 → σ → Option β) (I : Nat → σ → Prop) (N : Nat) (hs : ∀ k i s, i < N → I i s → ∃ s', I (i + 1) s' ∧ L (k + 1) (nI i) s = L k (nI (i + 1)) s') : ∀ (d i k : Nat) (s : σ), i + d = N → d < k → I i s → ∃ s' k', I N s' ∧ k = k' + 1 + d ∧ L k (nI i) s = L (k' + 1) (nI N) s'
  | 0, i, k, s, h, hk, hI => by
    have e : i = N := by omega
    subst e
    exact ⟨s, k - 1, hI, by omega, by rw [show k - 1 + 1 = k by omega]⟩
  | d + 1, i, k, s, h, hk, hI => by
    obtain ⟨k', rfl⟩ : ∃ k', k = k' + 1 := ⟨k - 1, by omega⟩
    obtain ⟨s1, h1, h2⟩ := hs k' i s (by omega) hI
    obtain ⟨s2, k2, g1, g2, g3⟩ := loop_ex L I N hs d (i + 1) k' s1 (by omega) (by omega) h1
    exact ⟨s2, k2, g1, by omega, h2.trans g3⟩
/-! ===== the class's row ===== -/
/-- the sea, in numbers -/
def OcOK (dp md : A32) (pc : Int32) (tu : A32) (d : Nat → Nat) (p : Nat) : Prop := (∀ c, c < 48 → d c ≤ 9 ∧ dp c = nI (d c) ∧ md c = nI (d c)) ∧ 1 ≤ p ∧ p ≤ 9 ∧ pc = nI p ∧ tu 0 = nI p
theorem oc_ok {dp md : A32} (h : RDp dp md) {pc fd yn : Int32} {tu : A32} (ht : RTu pc fd yn tu) : ∃ p, OcOK dp md pc tu (fun c => (dp c).toNatClampNeg) p := by
  obtain ⟨⟨p, p1, p2, p3, p4⟩, -⟩ := ht
  refine ⟨p, fun c hc => ?_, p1, p2, p3, p4⟩
  obtain ⟨h1, d, d1, d2⟩ := h c hc
  have e : (dp c).toNatClampNeg = d := by rw [d2, nI_cl (by omega)]
  simp only [e]
  exact ⟨d1, d2, h1 ▸ d2⟩
abbrev seaN (d : Nat → Nat) (c : Nat) : Prop := 0 < d c
def wN (d : Nat → Nat) (p : Nat) (c : Nat) : Nat := p * (10 - d c)
theorem wN_le (d : Nat → Nat) {p : Nat} (hp : p ≤ 9) (c : Nat) : wN d p c ≤ 90 := by
  unfold wN
  exact Nat.le_trans (Nat.mul_le_mul hp (show 10 - d c ≤ 10 by omega)) (by omega)
/-- the row that holds the values V, -9 for none -/
def encC : Option Nat → Int32
  | none => -9
  | some k => nI k
def RC (row : A32) (V : VF) : Prop := ∀ c, c < 48 → row c = encC (V c)
theorem nI_ne9 {k : Nat} (h : k < 2147483648) : ¬ nI k = -9 := fun q => by
  rw [i_eq, nI_int h, show (-9 : Int32).toInt = -9 by decide] at q
  omega
/-- one neighbour looked at -/
theorem shorten_eq {dp md : A32} {pc : Int32} {tu : A32} {d : Nat → Nat} {p : Nat} (H : OcOK dp md pc tu d p) {row : A32} {V : VF} {c u B : Nat} (hc : c < 48) (hu : u < 48) (hB : B ≤ 1000000) (hb : ∀ j k, V j = some k → k ≤ B) {b : Option Nat} (hbb : ∀ k, b = some k → k ≤ B + 90) (h1 : row c = encC b) (h2 : row u = encC (V u)) : ∃ f row', f_X4_shorten (nI c) (nI u) pc row dp = some (f, row') ∧ row' c = encC (om b (V u) (wN d p u)) ∧ (∀ j, j ≠ c → row' j = row j) ∧ ((f = 0 ∧ om b (V u) (wN d p u) = b) ∨ f = 1) := by
  obtain ⟨hd, p1, p2, rfl, -⟩ := H
  obtain ⟨d1, d2, -⟩ := hd u hu
  have hw := wN_le d p2 u
  unfold f_X4_shorten
  rw [pgd_pos (pin_nI hu (by omega))]
  simp only [nI_cl (show u < 2147483648 by omega), h2]
  cases hv : V u with
  | none =>
    rw [pbr_pos (show encC none = -9 from rfl)]
    exact ⟨_, _, rfl, h1, fun _ _ => rfl, Or.inl ⟨rfl, rfl⟩⟩
  | some k =>
    have hk := hb u k hv
    have ew : encC (some k) + nI p * (10 - dp u) = nI (k + wN d p u) := by
      show nI k + nI p * (10 - dp u) = _
      rw [d2, show (10 : Int32) - nI (d u) = nI (10 - d u) from nI_sub (a := 10) (by omega), nI_mul, nI_add]
      rfl
    rw [pbr_neg (show ¬ encC (some k) = -9 from nI_ne9 (by omega)), plt_eq, pgd_pos (pin_nI hc (by omega))]
    simp only [nI_cl (show c < 2147483648 by omega), h1, ew]
    cases b with
    | none =>
      rw [pbr_pos (show encC none = -9 from rfl), plt_eq]
      exact ⟨_, _, rfl, upd_s _ _ _, fun j hj => upd_n hj, Or.inr rfl⟩
    | some q =>
      have hq := hbb q rfl
      rw [pbr_neg (show ¬ encC (some q) = -9 from nI_ne9 (by omega))]
      show ∃ (f : Int32) (row' : A32), pbr (nI (k + wN d p u) < nI q) _ _ = some (f, row') ∧ row' c = encC (if k + wN d p u < q then some (k + wN d p u) else some q) ∧ (∀ j, j ≠ c → row' j = row j) ∧ ((f = 0 ∧ (if k + wN d p u < q then some (k + wN d p u) else some q) = some q) ∨ f = 1)
      by_cases e : k + wN d p u < q
      · rw [pbr_pos (lt_t e), if_pos e, plt_eq]
        exact ⟨_, _, rfl, upd_s _ _ _, fun j hj => upd_n hj, Or.inr rfl⟩
      · rw [pbr_neg (lt_f (by omega)), if_neg e]
        exact ⟨_, _, rfl, h1, fun _ _ => rfl, Or.inl ⟨rfl, rfl⟩⟩
