/-! ===== ways over the sea ===== -/
abbrev VF : Type := Nat → Option Nat
def adj (c u : Nat) : Prop := (8 ≤ c ∧ u = c - 8) ∨ (c < 40 ∧ u = c + 8) ∨ (c % 8 ≠ 0 ∧ u = c - 1) ∨ (c % 8 ≠ 7 ∧ u = c + 1)
theorem adj_lt {c u : Nat} (hc : c < 48) (h : adj c u) : u < 48 ∧ u ≠ c := by
  unfold adj at h
  omega
theorem adj_sym {c u : Nat} (hc : c < 48) (h : adj c u) : adj u c := by
  unfold adj at h ⊢
  omega
/-- the lesser of what is known and a neighbour's with the step's cost -/
def om (b v : Option Nat) (e : Nat) : Option Nat := match v with
  | none => b
  | some k => match b with
    | none => some (k + e)
    | some q => if k + e < q then some (k + e) else some q
/-- a is no worse than b -/
def leO (a b : Option Nat) : Prop := ∀ k, b = some k → ∃ q, q ≤ k ∧ a = some q
theorem leO_refl (a : Option Nat) : leO a a := fun k h => ⟨k, Nat.le_refl k, h⟩
theorem leO_trans {a b c : Option Nat} (h1 : leO a b) (h2 : leO b c) : leO a c := fun k h => by
  obtain ⟨q, q1, q2⟩ := h2 k h
  obtain ⟨r, r1, r2⟩ := h1 q q2
  exact ⟨r, by omega, r2⟩
theorem om_le (b v : Option Nat) (e : Nat) : leO (om b v e) b := by
  intro k hk
  subst hk
  cases v with
  | none => exact ⟨k, Nat.le_refl k, rfl⟩
  | some j =>
    show ∃ q, q ≤ k ∧ (if j + e < k then some (j + e) else some k) = some q
    by_cases h : j + e < k
    · rw [if_pos h]; exact ⟨j + e, by omega, rfl⟩
    · rw [if_neg h]; exact ⟨k, Nat.le_refl k, rfl⟩
theorem om_via (b v : Option Nat) (e : Nat) {k : Nat} (h : v = some k) : ∃ q, q ≤ k + e ∧ om b v e = some q := by
  subst h
  cases b with
  | none => exact ⟨k + e, Nat.le_refl _, rfl⟩
  | some j =>
    show ∃ q, q ≤ k + e ∧ (if k + e < j then some (k + e) else some j) = some q
    by_cases h : k + e < j
    · rw [if_pos h]; exact ⟨k + e, Nat.le_refl _, rfl⟩
    · rw [if_neg h]; exact ⟨j, by omega, rfl⟩
theorem om_from (b v : Option Nat) (e : Nat) : om b v e = b ∨ ∃ k, v = some k ∧ om b v e = some (k + e) := by
  cases v with
  | none => exact Or.inl rfl
  | some k =>
    cases b with
    | none => exact Or.inr ⟨k, rfl, rfl⟩
    | some j =>
      show (if k + e < j then some (k + e) else some j) = some j ∨ ∃ q, some k = some q ∧ (if k + e < j then some (k + e) else some j) = some (q + e)
      by_cases h : k + e < j
      · rw [if_pos h]; exact Or.inr ⟨k, rfl, rfl⟩
      · rw [if_neg h]; exact Or.inl rfl
/-- all four neighbours, one after another -/
def ch1 (e : Nat → Nat → Nat) (V : VF) (c : Nat) (b : Option Nat) : Option Nat := if 8 ≤ c then om b (V (c - 8)) (e c (c - 8)) else b
def ch2 (e : Nat → Nat → Nat) (V : VF) (c : Nat) (b : Option Nat) : Option Nat := if c < 40 then om b (V (c + 8)) (e c (c + 8)) else b
def ch3 (e : Nat → Nat → Nat) (V : VF) (c : Nat) (b : Option Nat) : Option Nat := if c % 8 ≠ 0 then om b (V (c - 1)) (e c (c - 1)) else b
def ch4 (e : Nat → Nat → Nat) (V : VF) (c : Nat) (b : Option Nat) : Option Nat := if c % 8 ≠ 7 then om b (V (c + 1)) (e c (c + 1)) else b
def chV (e : Nat → Nat → Nat) (V : VF) (c : Nat) : Option Nat := ch4 e V c (ch3 e V c (ch2 e V c (ch1 e V c (V c))))
theorem ch_le {e : Nat → Nat → Nat} {V : VF} {c : Nat} {b : Option Nat} : leO (ch1 e V c b) b ∧ leO (ch2 e V c b) b ∧ leO (ch3 e V c b) b ∧ leO (ch4 e V c b) b := by
  refine ⟨?_, ?_, ?_, ?_⟩
  · unfold ch1
    by_cases h : 8 ≤ c
    · rw [if_pos h]; exact om_le _ _ _
    · rw [if_neg h]; exact leO_refl _
  · unfold ch2
    by_cases h : c < 40
    · rw [if_pos h]; exact om_le _ _ _
    · rw [if_neg h]; exact leO_refl _
  · unfold ch3
    by_cases h : c % 8 ≠ 0
    · rw [if_pos h]; exact om_le _ _ _
    · rw [if_neg h]; exact leO_refl _
  · unfold ch4
    by_cases h : c % 8 ≠ 7
    · rw [if_pos h]; exact om_le _ _ _
    · rw [if_neg h]; exact leO_refl _
theorem chV_le (e : Nat → Nat → Nat) (V : VF) (c : Nat) : leO (chV e V c) (V c) :=
  leO_trans ch_le.2.2.2 (leO_trans ch_le.2.2.1 (leO_trans ch_le.2.1 ch_le.1))
theorem chV_via (e : Nat → Nat → Nat) (V : VF) {c u k : Nat} (h : adj c u) (hu : V u = some k) : ∃ q, q ≤ k + e c u ∧ chV e V c = some q := by
  have up : ∀ {a b : Option Nat}, leO a b → (∃ q, q ≤ k + e c u ∧ b = some q) → ∃ q, q ≤ k + e c u ∧ a = some q := fun hab ⟨q, q1, q2⟩ => by
    obtain ⟨r, r1, r2⟩ := hab q q2
    exact ⟨r, by omega, r2⟩
  unfold chV
  rcases h with ⟨h1, rfl⟩ | ⟨h1, rfl⟩ | ⟨h1, rfl⟩ | ⟨h1, rfl⟩
  · refine up ch_le.2.2.2 (up ch_le.2.2.1 (up ch_le.2.1 ?_))
    unfold ch1
    rw [if_pos h1]
    exact om_via _ _ _ hu
  · refine up ch_le.2.2.2 (up ch_le.2.2.1 ?_)
    unfold ch2
    rw [if_pos h1]
    exact om_via _ _ _ hu
  · refine up ch_le.2.2.2 ?_
    unfold ch3
    rw [if_pos h1]
    exact om_via _ _ _ hu
  · unfold ch4
    rw [if_pos h1]
    exact om_via _ _ _ hu
theorem chV_from (e : Nat → Nat → Nat) (V : VF) {c k : Nat} (h : chV e V c = some k) : V c = some k ∨ ∃ u q, adj c u ∧ V u = some q ∧ k = q + e c u := by
  have f1 : ∀ b, ch1 e V c b = b ∨ ∃ u q, adj c u ∧ V u = some q ∧ ch1 e V c b = some (q + e c u) := fun b => by
    unfold ch1
    by_cases h : 8 ≤ c
    · rw [if_pos h]
      exact (om_from _ _ _).imp id (fun ⟨q, q1, q2⟩ => ⟨c - 8, q, Or.inl ⟨h, rfl⟩, q1, q2⟩)
    · rw [if_neg h]; exact Or.inl rfl
  have f2 : ∀ b, ch2 e V c b = b ∨ ∃ u q, adj c u ∧ V u = some q ∧ ch2 e V c b = some (q + e c u) := fun b => by
    unfold ch2
    by_cases h : c < 40
    · rw [if_pos h]
      exact (om_from _ _ _).imp id (fun ⟨q, q1, q2⟩ => ⟨c + 8, q, Or.inr (Or.inl ⟨h, rfl⟩), q1, q2⟩)
    · rw [if_neg h]; exact Or.inl rfl
  have f3 : ∀ b, ch3 e V c b = b ∨ ∃ u q, adj c u ∧ V u = some q ∧ ch3 e V c b = some (q + e c u) := fun b => by
    unfold ch3
    by_cases h : c % 8 ≠ 0
    · rw [if_pos h]
      exact (om_from _ _ _).imp id (fun ⟨q, q1, q2⟩ => ⟨c - 1, q, Or.inr (Or.inr (Or.inl ⟨h, rfl⟩)), q1, q2⟩)
    · rw [if_neg h]; exact Or.inl rfl
  have f4 : ∀ b, ch4 e V c b = b ∨ ∃ u q, adj c u ∧ V u = some q ∧ ch4 e V c b = some (q + e c u) := fun b => by
    unfold ch4
    by_cases h : c % 8 ≠ 7
    · rw [if_pos h]
      exact (om_from _ _ _).imp id (fun ⟨q, q1, q2⟩ => ⟨c + 1, q, Or.inr (Or.inr (Or.inr ⟨h, rfl⟩)), q1, q2⟩)
    · rw [if_neg h]; exact Or.inl rfl
  have fin : ∀ {x : Option Nat}, (∃ u q, adj c u ∧ V u = some q ∧ x = some (q + e c u)) → x = some k → ∃ u q, adj c u ∧ V u = some q ∧ k = q + e c u := fun ⟨u, q, a, b, d⟩ hx => ⟨u, q, a, b, by rw [d] at hx; exact (Option.some.inj hx).symm⟩
  unfold chV at h
  rcases f4 (ch3 e V c (ch2 e V c (ch1 e V c (V c)))) with g4 | g4
  · rw [g4] at h
    rcases f3 (ch2 e V c (ch1 e V c (V c))) with g3 | g3
    · rw [g3] at h
      rcases f2 (ch1 e V c (V c)) with g2 | g2
      · rw [g2] at h
        rcases f1 (V c) with g1 | g1
        · rw [g1] at h; exact Or.inl h
        · exact Or.inr (fin g1 h)
      · exact Or.inr (fin g2 h)
    · exact Or.inr (fin g3 h)
  · exact Or.inr (fin g4 h)
/-- one cell made new -/
def stV (e : Nat → Nat → Nat) (V : VF) (c : Nat) : VF := fun j => if j = c then chV e V c else V j
/-- one sweep over the first i cells -/
def swV (sea : Nat → Prop) [DecidablePred sea] (e : Nat → Nat → Nat) (V : VF) (i : Nat) : VF := fold (fun c U => if sea c then stV e U c else U) i V
/-- a way of n steps that costs k -/
def Wk (S sea : Nat → Prop) (e : Nat → Nat → Nat) : Nat → Nat → Nat → Prop
  | 0, c, k => S c ∧ k = 0
  | n + 1, c, k => ∃ u q, Wk S sea e n u q ∧ c < 48 ∧ adj c u ∧ sea c ∧ k = q + e c u
def Sound (S sea : Nat → Prop) (e : Nat → Nat → Nat) (V : VF) : Prop := ∀ c k, V c = some k → ∃ n, Wk S sea e n c k
def Fin1 (S sea : Nat → Prop) (e : Nat → Nat → Nat) (V : VF) (c : Nat) : Prop := ∀ n k, Wk S sea e n c k → ∃ q, q ≤ k ∧ V c = some q
theorem sw_le (sea : Nat → Prop) [DecidablePred sea] (e : Nat → Nat → Nat) (V : VF) (c : Nat) : ∀ i, leO (swV sea e V i c) (V c)
  | 0 => leO_refl _
  | i + 1 => by
    have ih := sw_le sea e V c i
    show leO ((if sea i then stV e (swV sea e V i) i else swV sea e V i) c) (V c)
    by_cases h : sea i
    · rw [if_pos h]
      unfold stV
      by_cases q : c = i
      · subst q
        rw [if_pos rfl]
        exact leO_trans (chV_le _ _ _) ih
      · rw [if_neg q]; exact ih
    · rw [if_neg h]; exact ih
theorem sw_sound {S sea : Nat → Prop} [DecidablePred sea] {e : Nat → Nat → Nat} {V : VF} (h : Sound S sea e V) : ∀ i, i ≤ 48 → Sound S sea e (swV sea e V i)
  | 0, _ => h
  | i + 1, hi => by
    have ih := sw_sound h i (by omega)
    show Sound S sea e (if sea i then stV e (swV sea e V i) i else swV sea e V i)
    by_cases g : sea i
    · rw [if_pos g]
      intro c k hk
      unfold stV at hk
      by_cases q : c = i
      · subst q
        rw [if_pos rfl] at hk
        rcases chV_from e _ hk with a | ⟨u, q, a, b, d⟩
        · exact ih _ _ a
        · obtain ⟨n, hn⟩ := ih _ _ b
          exact ⟨n + 1, u, q, hn, by omega, a, g, d⟩
      · rw [if_neg q] at hk
        exact ih _ _ hk
    · rw [if_neg g]; exact ih
theorem sw_via (sea : Nat → Prop) [DecidablePred sea] (e : Nat → Nat → Nat) (V : VF) {c u k : Nat} (hc : sea c) (ha : adj c u) (hu : V u = some k) : ∀ i, c < i → ∃ q, q ≤ k + e c u ∧ swV sea e V i c = some q
  | 0, h => absurd h (by omega)
  | i + 1, h => by
    show ∃ q, q ≤ k + e c u ∧ (if sea i then stV e (swV sea e V i) i else swV sea e V i) c = some q
    by_cases q : c = i
    · subst q
      rw [if_pos hc]
      unfold stV
      rw [if_pos rfl]
      obtain ⟨r, r1, r2⟩ := sw_le sea e V u c k hu
      obtain ⟨t, t1, t2⟩ := chV_via e (swV sea e V c) ha r2
      exact ⟨t, by omega, t2⟩
    · have ih := sw_via sea e V hc ha hu i (by omega)
      by_cases g : sea i
      · rw [if_pos g]
        unfold stV
        rw [if_neg q]
        exact ih
      · rw [if_neg g]; exact ih
theorem sw_bd (sea : Nat → Prop) [DecidablePred sea] {e : Nat → Nat → Nat} (he : ∀ c u, e c u ≤ 90) {V : VF} {B : Nat} (h : ∀ c k, V c = some k → k ≤ B) : ∀ i c k, swV sea e V i c = some k → k ≤ B + 90 * i
  | 0, c, k, hk => h c k hk
  | i + 1, c, k, hk => by
    have ih := sw_bd sea he h i
    have hk' : (if sea i then stV e (swV sea e V i) i else swV sea e V i) c = some k := hk
    by_cases g : sea i
    · rw [if_pos g] at hk'
      unfold stV at hk'
      by_cases q : c = i
      · rw [if_pos q] at hk'
        rcases chV_from e _ hk' with a | ⟨u, q, a, b, d⟩
        · have := ih _ _ a; omega
        · have h1 := ih _ _ b
          have h2 := he i u
          omega
      · rw [if_neg q] at hk'
        have := ih _ _ hk'; omega
    · rw [if_neg g] at hk'
      have := ih _ _ hk'; omega
/-- if some cell isn't final, a sweep makes one final -/
theorem progress {S sea : Nat → Prop} [DecidablePred sea] {e : Nat → Nat → Nat} (he : ∀ c u, 1 ≤ e c u) {V : VF} (hS : ∀ c, S c → c < 48 ∧ V c = some 0) : (∀ c, c < 48 → Fin1 S sea e V c) ∨ ∃ c, c < 48 ∧ ¬ Fin1 S sea e V c ∧ Fin1 S sea e (swV sea e V 48) c := by
  by_cases hall : ∀ c, c < 48 → Fin1 S sea e V c
  · exact Or.inl hall
  refine Or.inr ?_
  have hex : ∃ k n c, c < 48 ∧ Wk S sea e n c k ∧ ¬ ∃ q, q ≤ k ∧ V c = some q := by
    apply Classical.byContradiction
    intro hc
    exact hall (fun c hc1 n k hw => Classical.byContradiction (fun hq => hc ⟨k, n, c, hc1, hw, hq⟩))
  obtain ⟨k, ⟨n, c, hc, hw, hq⟩, hmin⟩ := pk_least (fun k => ∃ n c, c < 48 ∧ Wk S sea e n c k ∧ ¬ ∃ q, q ≤ k ∧ V c = some q) hex
  have hmin' : ∀ k' n' c', c' < 48 → k' < k → Wk S sea e n' c' k' → ∃ q, q ≤ k' ∧ V c' = some q := fun k' n' c' h1 h2 h3 => Classical.byContradiction (fun h4 => hmin k' h2 ⟨n', c', h1, h3, h4⟩)
  have hless : ∀ n' k', k' < k → Wk S sea e n' c k' → ∃ q, q ≤ k' ∧ swV sea e V 48 c = some q := fun n' k' h1 h2 => by
    obtain ⟨q, q1, q2⟩ := hmin' k' n' c hc h1 h2
    obtain ⟨r, r1, r2⟩ := sw_le sea e V c 48 q q2
    exact ⟨r, by omega, r2⟩
  refine ⟨c, hc, fun hf => hq (hf n k hw), fun n' k' hw' => ?_⟩
  cases n with
  | zero =>
    obtain ⟨h1, h2⟩ := hw
    exact absurd ⟨0, by omega, (hS c h1).2⟩ hq
  | succ m =>
    obtain ⟨u, q, w1, w2, w3, w4, w5⟩ := hw
    have h1 := he c u
    obtain ⟨r, r1, r2⟩ := hmin' q m u (adj_lt w2 w3).1 (by omega) w1
    obtain ⟨t, t1, t2⟩ := sw_via sea e V w4 w3 r2 48 w2
    by_cases hk : k' < k
    · exact hless n' k' hk hw'
    · exact ⟨t, by omega, t2⟩
theorem fin_mono {S sea : Nat → Prop} [DecidablePred sea] {e : Nat → Nat → Nat} {V : VF} {c : Nat} (h : Fin1 S sea e V c) : Fin1 S sea e (swV sea e V 48) c := fun n k hw => by
  obtain ⟨q, q1, q2⟩ := h n k hw
  obtain ⟨r, r1, r2⟩ := sw_le sea e V c 48 q q2
  exact ⟨r, by omega, r2⟩
/-- how many are final -/
noncomputable def fct (S sea : Nat → Prop) (e : Nat → Nat → Nat) (V : VF) : Nat := ctF (fun c => @decide (Fin1 S sea e V c) (Classical.propDecidable _)) 48 0
theorem fct_le (S sea : Nat → Prop) (e : Nat → Nat → Nat) (V : VF) : fct S sea e V ≤ 48 := by
  have := ctF_le (fun c => @decide (Fin1 S sea e V c) (Classical.propDecidable _)) 48 0
  unfold fct
  omega
theorem fct_up {S sea : Nat → Prop} [DecidablePred sea] {e : Nat → Nat → Nat} (he : ∀ c u, 1 ≤ e c u) {V : VF} (hS : ∀ c, S c → c < 48 ∧ V c = some 0) : (∀ c, c < 48 → Fin1 S sea e V c) ∨ fct S sea e V < fct S sea e (swV sea e V 48) := by
  rcases progress (sea := sea) he hS with h | ⟨c, hc, h1, h2⟩
  · exact Or.inl h
  · refine Or.inr ((ctF_lt (fun i hi hq => ?_)).2 ⟨c, hc, ?_, ?_⟩)
    · exact @decide_eq_true _ (Classical.propDecidable _) (fin_mono (@of_decide_eq_true _ (Classical.propDecidable _) hq))
    · exact @decide_eq_true _ (Classical.propDecidable _) h2
    · exact @decide_eq_false _ (Classical.propDecidable _) h1
/-- what a finished row says -/
theorem fin_unique {S sea : Nat → Prop} {e : Nat → Nat → Nat} {V : VF} (hs : Sound S sea e V) (hf : ∀ c, c < 48 → Fin1 S sea e V c) {c : Nat} (hc : c < 48) (k : Nat) : V c = some k ↔ (∃ n, Wk S sea e n c k) ∧ ∀ n q, Wk S sea e n c q → k ≤ q := by
  constructor
  · intro h
    refine ⟨hs c k h, fun n q hw => ?_⟩
    obtain ⟨r, r1, r2⟩ := hf c hc n q hw
    rw [h] at r2
    have := Option.some.inj r2
    omega
  · rintro ⟨⟨n, hn⟩, hmin⟩
    obtain ⟨r, r1, r2⟩ := hf c hc n k hn
    obtain ⟨m, hm⟩ := hs c r r2
    have := hmin m r hm
    rw [r2, show r = k by omega]
