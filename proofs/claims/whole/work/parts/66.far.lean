theorem land_none {S sea : Nat → Prop} {e : Nat → Nat → Nat} {V : VF} (hs : Sound S sea e V) (hS : ∀ c, S c → c < 48 ∧ sea c) {c : Nat} (h : ¬ sea c) : V c = none := by
  cases hv : V c with
  | none => rfl
  | some k =>
    obtain ⟨n, hn⟩ := hs c k hv
    cases n with
    | zero => exact absurd (hS c hn.1).2 h
    | succ n =>
      obtain ⟨u, q, -, -, -, h4, -⟩ := hn
      exact absurd h4 h
/-- a pass over all cells -/
theorem pass_eq {dp md : A32} {pc : Int32} {tu : A32} {d : Nat → Nat} {p : Nat} (H : OcOK dp md pc tu d p) {S : Nat → Prop} (hSS : ∀ c, S c → c < 48 ∧ seaN d c) {far : A32} {V : VF} {B : Nat} (hB : B ≤ 300000) (hb : ∀ j k, V j = some k → k ≤ B) (hr : RM far V) (hs : Sound S (seaN d) (fun c _ => wN d p c) V) (r2 : Int32 → A32 → Option A32) : ∃ y far', f_X12_spread_10 r2 md tu FU 0 0 far = r2 y far' ∧ RM far' (swV (seaN d) (fun c _ => wN d p c) V 48) ∧ FlE y (∀ c, c < 48 → swV (seaN d) (fun c _ => wN d p c) V 48 c = V c) := by
  have hFU := FU_big
  have sw1 : ∀ i c, i ≤ c → swV (seaN d) (fun c _ => wN d p c) V i c = V c := fun i => by
    induction i with
    | zero => exact fun c _ => rfl
    | succ i ih =>
      intro c hc
      show (if seaN d i then stV (fun c _ => wN d p c) (swV (seaN d) (fun c _ => wN d p c) V i) i else swV (seaN d) (fun c _ => wN d p c) V i) c = V c
      by_cases g : seaN d i
      · rw [if_pos g]
        unfold stV
        rw [if_neg (by omega)]
        exact ih c (by omega)
      · rw [if_neg g]; exact ih c (by omega)
  have key := loop_ex (fun fu i (s : Int32 × A32) => f_X12_spread_10 r2 md tu fu s.1 i s.2) (fun i s => RM s.2 (swV (seaN d) (fun c _ => wN d p c) V i) ∧ FlE s.1 (∀ c, c < i → swV (seaN d) (fun c _ => wN d p c) V i c = V c)) 48 (fun fu c s hc hI => ?_) 48 0 FU (0, far) (by omega) (by omega) ⟨hr, Or.inl ⟨rfl, fun c hc => absurd hc (by omega)⟩⟩
  · obtain ⟨s, k, h1, h2, h3⟩ := key
    refine ⟨s.1, s.2, h3.trans ?_, h1⟩
    show f_X12_spread_10 r2 md tu (k + 1) s.1 (nI 48) s.2 = _
    rw [f_X12_spread_10, pbr_pos (show (48 : Int32) ≤ nI 48 by decide)]
  · have hbd := sw_bd (seaN d) (e := fun c _ => wN d p c) (fun c _ => wN_le d H.2.2.1 c) hb c
    have hsd := sw_sound (sea := seaN d) hs c (by omega)
    obtain ⟨y, far', q1, q2, q3⟩ := pass_cell H hc (fun j k hk => Nat.le_trans (hbd j k hk) (by omega)) hI.1 (fun g => land_none hsd hSS g) hI.2 r2 fu
    refine ⟨(y, far'), ⟨q2, ?_⟩, q1⟩
    have e1 : swV (seaN d) (fun c _ => wN d p c) V (c + 1) = if seaN d c then stV (fun c _ => wN d p c) (swV (seaN d) (fun c _ => wN d p c) V c) c else swV (seaN d) (fun c _ => wN d p c) V c := rfl
    have e2 : ∀ j, j < c → swV (seaN d) (fun c _ => wN d p c) V (c + 1) j = swV (seaN d) (fun c _ => wN d p c) V c j := fun j hj => by
      rw [e1]
      by_cases g : seaN d c
      · rw [if_pos g]
        unfold stV
        rw [if_neg (by omega)]
      · rw [if_neg g]
    have e3 := sw1 c c (Nat.le_refl c)
    have iff : (∀ j, j < c + 1 → swV (seaN d) (fun c _ => wN d p c) V (c + 1) j = V j) ↔ ((∀ j, j < c → swV (seaN d) (fun c _ => wN d p c) V c j = V j) ∧ (if seaN d c then stV (fun c _ => wN d p c) (swV (seaN d) (fun c _ => wN d p c) V c) c else swV (seaN d) (fun c _ => wN d p c) V c) c = swV (seaN d) (fun c _ => wN d p c) V c c) := by
      rw [← e1, e3]
      constructor
      · intro h
        exact ⟨fun j hj => (e2 j hj) ▸ h j (by omega), h c (by omega)⟩
      · rintro ⟨h1, h2⟩ j hj
        by_cases q : j = c
        · rw [q]; exact h2
        · rw [e2 j (by omega)]; exact h1 j (by omega)
    rcases q3 with ⟨a, b⟩ | ⟨a, b⟩
    · exact Or.inl ⟨a, iff.mpr b⟩
    · exact Or.inr ⟨a, fun z => b (iff.mp z)⟩
theorem all_fin_still {S sea : Nat → Prop} [DecidablePred sea] {e : Nat → Nat → Nat} {V : VF} (hs : Sound S sea e V) (hf : ∀ c, c < 48 → Fin1 S sea e V c) : ∀ c, c < 48 → swV sea e V 48 c = V c := fun c hc => by
  have hs' := sw_sound (sea := sea) hs 48 (by omega)
  cases hv : V c with
  | none =>
    cases hw : swV sea e V 48 c with
    | none => rfl
    | some k =>
      obtain ⟨n, hn⟩ := hs' c k hw
      obtain ⟨q, -, q2⟩ := hf c hc n k hn
      rw [hv] at q2
      exact nomatch q2
  | some k =>
    obtain ⟨q, q1, q2⟩ := sw_le sea e V c 48 k hv
    obtain ⟨n, hn⟩ := hs' c q q2
    obtain ⟨r, r1, r2⟩ := hf c hc n q hn
    rw [hv] at r2
    have := Option.some.inj r2
    rw [q2, show q = k by omega]
theorem passes_eq {dp md : A32} {pc : Int32} {tu : A32} {d : Nat → Nat} {p : Nat} (H : OcOK dp md pc tu d p) (h9 : ∀ c, d c ≤ 9) {S : Nat → Prop} (hSS : ∀ c, S c → c < 48 ∧ seaN d c) : ∀ (n j fu : Nat) (far : A32) (V : VF) (x1 : Int32), j + n = 49 → n < fu → RM far V → (∀ c k, V c = some k → k ≤ 4320 * j) → Sound S (seaN d) (fun c _ => wN d p c) V → (∀ c, S c → c < 48 ∧ V c = some 0) → ((x1 = 0 ∧ ∀ c, c < 48 → Fin1 S (seaN d) (fun c _ => wN d p c) V c) ∨ (x1 = 1 ∧ j ≤ fct S (seaN d) (fun c _ => wN d p c) V)) → ∃ far' V', f_X12_spread_2 md tu fu x1 far = some far' ∧ RM far' V' ∧ Done S (seaN d) (fun c _ => wN d p c) V' ∧ ∀ c k, V' c = some k → k ≤ 300000
  | n, j, fu, far, V, x1, h, hf, hr, hb, hs, hS, Or.inl ⟨e, hx⟩ => by
    obtain ⟨f, rfl⟩ : ∃ f, fu = f + 1 := ⟨fu - 1, by omega⟩
    rw [f_X12_spread_2, pbr_pos e]
    exact ⟨far, V, rfl, hr, ⟨hs, hx⟩, fun c k hk => Nat.le_trans (hb c k hk) (by omega)⟩
  | 0, j, fu, far, V, x1, h, hf, hr, hb, hs, hS, Or.inr ⟨e, hx⟩ => by
    have := fct_le S (seaN d) (fun c _ => wN d p c) V
    omega
  | n + 1, j, fu, far, V, x1, h, hf, hr, hb, hs, hS, Or.inr ⟨e, hx⟩ => by
    obtain ⟨f, rfl⟩ : ∃ f, fu = f + 1 := ⟨fu - 1, by omega⟩
    have he : ∀ c u, 1 ≤ (fun c _ => wN d p c : Nat → Nat → Nat) c u := fun c _ => w_pos d H.2.1 (h9 c)
    rw [f_X12_spread_2, pbr_neg (show ¬ x1 = 0 from by rw [e]; decide)]
    obtain ⟨y, far', q1, q2, q3⟩ := pass_eq H hSS (B := 4320 * j) (by omega) hb hr hs (f_X12_spread_2 md tu f)
    rw [q1]
    have hs' := sw_sound (sea := seaN d) hs 48 (by omega)
    have hS' := src_keep (sea := seaN d) (e := fun c _ => wN d p c) hS
    refine passes_eq H h9 hSS n (j + 1) f far' (swV (seaN d) (fun c _ => wN d p c) V 48) y (by omega) (by omega) q2 (fun c k hk => ?_) hs' hS' ?_
    · have := sw_bd (seaN d) (e := fun c _ => wN d p c) (fun c _ => wN_le d H.2.2.1 c) hb 48 c k hk
      omega
    · rcases q3 with ⟨a, b⟩ | ⟨a, b⟩
      · have g := still_fin (sea := seaN d) he hS b
        exact Or.inl ⟨a, fun c h1 => fin_mono (g c h1)⟩
      · rcases fct_up (sea := seaN d) he hS with g | g
        · exact absurd (all_fin_still hs g) b
        · exact Or.inr ⟨a, by omega⟩
def V0 (S : Nat → Prop) [DecidablePred S] : VF := fun c => if S c then some 0 else none
/-- THE MODEL'S FAR FROM A SET -/
theorem spread_eq {dp md : A32} {pc : Int32} {tu : A32} {d : Nat → Nat} {p : Nat} (H : OcOK dp md pc tu d p) (h9 : ∀ c, d c ≤ 9) {S : Nat → Prop} [DecidablePred S] (hSS : ∀ c, S c → c < 48 ∧ seaN d c) {far : A32} (hr : RM far (V0 S)) : ∃ far', f_X12_spread md far tu = some far' ∧ ∀ b, b < 48 → (far' b = 1000000 ∧ ∀ a n k, S a → ¬ PP (seaN d) (wN d p) n a b k) ∨ ∃ k, k ≤ 300000 ∧ far' b = nI k ∧ (∃ a n, S a ∧ PP (seaN d) (wN d p) n a b k) ∧ ∀ a n q, S a → PP (seaN d) (wN d p) n a b q → k ≤ q := by
  have hFU := FU_big
  obtain ⟨far', V', h1, h2, h3, h4⟩ := passes_eq H h9 hSS 49 0 FU far (V0 S) 1 (by omega) (by omega) hr (fun c k hk => by
    unfold V0 at hk
    by_cases g : S c
    · rw [if_pos g] at hk; have := Option.some.inj hk; omega
    · rw [if_neg g] at hk; exact nomatch hk) (fun c k hk => by
    unfold V0 at hk
    by_cases g : S c
    · rw [if_pos g] at hk; exact ⟨0, g, (Option.some.inj hk).symm⟩
    · rw [if_neg g] at hk; exact nomatch hk) (fun c hc => ⟨(hSS c hc).1, if_pos hc⟩) (Or.inr ⟨rfl, Nat.zero_le _⟩)
  refine ⟨far', h1, fun b hb => ?_⟩
  have e := h2 b hb
  cases hv : V' b with
  | none =>
    refine Or.inl ⟨by rw [e, hv]; rfl, fun a n k ha hp => ?_⟩
    obtain ⟨q, -, q2⟩ := h3.2 b hb n k ((Wk_model hSS).mpr ⟨a, ha, hp⟩)
    rw [hv] at q2
    exact nomatch q2
  | some k =>
    obtain ⟨⟨n, hn⟩, hm⟩ := (fin_unique h3.1 h3.2 hb k).mp hv
    obtain ⟨a, a1, a2⟩ := (Wk_model hSS).mp hn
    exact Or.inr ⟨k, h4 b k hv, by rw [e, hv]; rfl, ⟨a, n, a1, a2⟩, fun a n q ha hp => hm n q ((Wk_model hSS).mpr ⟨a, ha, hp⟩)⟩
/-- THE MODEL'S FAR FROM ONE CELL -/
theorem begin_eq {dp md : A32} {pc : Int32} {tu : A32} {d : Nat → Nat} {p : Nat} (H : OcOK dp md pc tu d p) (h9 : ∀ c, d c ≤ 9) {a : Nat} (ha : a < 48) (far0 : A32) : ∃ far, f_X12_begin (nI a) md far0 tu = some far ∧ ∀ b, b < 48 → (far b = 1000000 ∧ ∀ n k, ¬ PP (seaN d) (wN d p) n a b k) ∨ ∃ k, k ≤ 300000 ∧ far b = nI k ∧ Dist (seaN d) (wN d p) a b k := by
  have key := loop_up (fun fu i (s : A32) => f_X12_begin_2 md tu (nI a) fu i s) (fun i s => upd s i (encM (V0 (fun c => c = a ∧ 0 < d c) i))) (fun s => pcl (f_X12_spread md s tu) (fun f => some f)) (fun i s => ∀ j, j < i → s j = encM (V0 (fun c => c = a ∧ 0 < d c) j)) 48 (by omega) (fun fu s _ => ?_) (fun fu i s hi hs => ⟨?_, fun j hj => ?_⟩) far0 (fun j hj => absurd hj (by omega))
  · obtain ⟨far', h1, h2⟩ := spread_eq H h9 (S := fun c => c = a ∧ 0 < d c) (fun c hc => ⟨by rw [hc.1]; exact ha, hc.2⟩) key.2
    refine ⟨far', key.1.trans (by rw [h1, pcl_some]), fun b hb => ?_⟩
    rcases h2 b hb with ⟨g1, g2⟩ | ⟨k, g1, g2, ⟨c, n, g3, g4⟩, g5⟩
    · refine Or.inl ⟨g1, fun n k hp => ?_⟩
      have hsea : 0 < d a := by
        cases n with
        | zero => exact hp.2.2.1
        | succ n => obtain ⟨u, q, -, -, z, -⟩ := PP_split hp; exact z
      exact g2 a n k ⟨rfl, hsea⟩ hp
    · refine Or.inr ⟨k, g1, g2, ⟨n, g3.1 ▸ g4⟩, fun n q hp => g5 a n q ⟨rfl, g3.1 ▸ g3.2⟩ hp⟩
  · show f_X12_begin_2 md tu (nI a) (fu + 1) (nI 48) s = _
    rw [f_X12_begin_2, pbr_pos (show (48 : Int32) ≤ nI 48 by decide)]
  · show f_X12_begin_2 md tu (nI a) (fu + 1) (nI i) s = f_X12_begin_2 md tu (nI a) fu (nI (i + 1)) (upd s i (encM (V0 (fun c => c = a ∧ 0 < d c) i)))
    obtain ⟨d1, -, d2⟩ := H.1 i hi
    rw [f_X12_begin_2, pbr_neg (show ¬ (48 : Int32) ≤ nI i from le_f (a := 48) hi)]
    unfold f_X12_begin_31
    simp only [pgd_pos (pin_nI hi (show 48 < 2147483648 by omega)), pgd_pos (pin_nI (show i < 96 by omega) (show 96 < 2147483648 by omega)), nI_cl (show i < 2147483648 by omega), d2, plt_eq, nI_1]
    unfold V0
    by_cases e : i = a
    · subst e
      rw [pbr_pos rfl]
      by_cases z : 0 < d i
      · rw [pbr_neg (show ¬ nI (d i) ≤ 0 from le_f (b := 0) z), if_pos ⟨rfl, z⟩]; rfl
      · rw [pbr_pos (show nI (d i) ≤ 0 from le_t (b := 0) (by omega)), if_neg (fun q => z q.2)]; rfl
    · rw [pbr_neg (eq_f e), if_neg (fun q => e q.1)]; rfl
  · by_cases q : j = i
    · subst q; exact upd_s _ _ _
    · rw [upd_n q]; exact hs j (by omega)
