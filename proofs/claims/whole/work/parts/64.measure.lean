/-- the row is finished: every value is the least cost of a way, and every way is seen -/
def Done (S sea : Nat → Prop) (e : Nat → Nat → Nat) (V : VF) : Prop := Sound S sea e V ∧ ∀ c, c < 48 → Fin1 S sea e V c
theorem ct_full {P : Nat → Bool} {n : Nat} (h : n ≤ ctF P n 0) : ∀ i, i < n → P i = true := fun i hi => by
  apply Classical.byContradiction
  intro hp
  have h1 := (ctF_lt (P := fun _ => true) (Q := P) (n := n) (fun _ _ _ => rfl)).2 ⟨i, hi, rfl, eq_false_of_ne_true hp⟩
  have h2 := ctF_le (fun _ => true) n 0
  omega
theorem fct_full {S sea : Nat → Prop} {e : Nat → Nat → Nat} {V : VF} (h : 48 ≤ fct S sea e V) : ∀ c, c < 48 → Fin1 S sea e V c := fun c hc => @of_decide_eq_true _ (Classical.propDecidable _) (ct_full h c hc)
/-- nothing has changed: all is final -/
theorem still_fin {S sea : Nat → Prop} [DecidablePred sea] {e : Nat → Nat → Nat} (he : ∀ c u, 1 ≤ e c u) {V : VF} (hS : ∀ c, S c → c < 48 ∧ V c = some 0) (h : ∀ c, c < 48 → swV sea e V 48 c = V c) : ∀ c, c < 48 → Fin1 S sea e V c := by
  rcases progress (sea := sea) he hS with q | ⟨c, hc, h1, h2⟩
  · exact q
  · refine absurd (fun n k hw => ?_) h1
    obtain ⟨r, r1, r2⟩ := h2 n k hw
    exact ⟨r, r1, (h c hc) ▸ r2⟩
theorem src_keep {S sea : Nat → Prop} [DecidablePred sea] {e : Nat → Nat → Nat} {V : VF} (hS : ∀ c, S c → c < 48 ∧ V c = some 0) : ∀ c, S c → c < 48 ∧ swV sea e V 48 c = some 0 := fun c hc => by
  obtain ⟨h1, h2⟩ := hS c hc
  obtain ⟨q, q1, q2⟩ := sw_le sea e V c 48 0 h2
  exact ⟨h1, by rw [q2, show q = 0 by omega]⟩
theorem w_pos (d : Nat → Nat) {p c : Nat} (hp : 1 ≤ p) (hd : d c ≤ 9) : 1 ≤ wN d p c := by
  unfold wN
  exact Nat.le_trans (by omega) (Nat.mul_le_mul hp (show 1 ≤ 10 - d c by omega))
/-- beyond the cells the depth is of no weight -/
def dC (d : Nat → Nat) (c : Nat) : Nat := if c < 48 then d c else 0
theorem oc_dC {dp md : A32} {pc : Int32} {tu : A32} {d : Nat → Nat} {p : Nat} (H : OcOK dp md pc tu d p) : OcOK dp md pc tu (dC d) p ∧ ∀ c, dC d c ≤ 9 := by
  refine ⟨⟨fun c hc => ?_, H.2⟩, fun c => ?_⟩
  · unfold dC; rw [if_pos hc]; exact H.1 c hc
  · unfold dC
    by_cases hc : c < 48
    · rw [if_pos hc]; exact (H.1 c hc).1
    · rw [if_neg hc]; omega
/-- the sweeps until nothing gets shorter -/
theorem sweeps_eq {dp md : A32} {pc : Int32} {tu : A32} {d : Nat → Nat} {p : Nat} (H : OcOK dp md pc tu d p) (h9 : ∀ c, d c ≤ 9) (x1 : Int32) {S : Nat → Prop} : ∀ (n j fu : Nat) (row : A32) (V : VF) (x3 : Int32), j + n = 48 → n < fu → RC row V → (∀ c k, V c = some k → k ≤ 4320 * j) → Sound S (seaN d) (fun _ u => wN d p u) V → (∀ c, S c → c < 48 ∧ V c = some 0) → (j ≤ fct S (seaN d) (fun _ u => wN d p u) V ∨ ∀ c, c < 48 → Fin1 S (seaN d) (fun _ u => wN d p u) V c) → Fl x3 (∀ c, c < 48 → Fin1 S (seaN d) (fun _ u => wN d p u) V c) → ∃ row' V', f_X4_measureTo_38 pc dp x1 fu x3 (nI j) row = some row' ∧ RC row' V' ∧ Done S (seaN d) (fun _ u => wN d p u) V' ∧ ∀ c k, V' c = some k → k ≤ 300000
  | 0, j, fu, row, V, x3, h, hf, hr, hb, hs, hS, hc, hx => by
    obtain ⟨f, rfl⟩ : ∃ f, fu = f + 1 := ⟨fu - 1, by omega⟩
    refine ⟨row, V, ?_, hr, ⟨hs, ?_⟩, fun c k hk => Nat.le_trans (hb c k hk) (by omega)⟩
    · rw [f_X4_measureTo_38, show j = 48 by omega, pbr_pos (show (48 : Int32) ≤ nI 48 by decide)]
    · rcases hc with hc | hc
      · exact fct_full (by omega)
      · exact hc
  | n + 1, j, fu, row, V, x3, h, hf, hr, hb, hs, hS, hc, hx => by
    obtain ⟨f, rfl⟩ : ∃ f, fu = f + 1 := ⟨fu - 1, by omega⟩
    rw [f_X4_measureTo_38, pbr_neg (show ¬ (48 : Int32) ≤ nI j from le_f (a := 48) (by omega))]
    by_cases e : x3 = 0
    · rw [pbr_pos e]
      exact ⟨row, V, rfl, hr, ⟨hs, hx.2 e⟩, fun c k hk => Nat.le_trans (hb c k hk) (by omega)⟩
    · rw [pbr_neg e]
      have he : ∀ c u, 1 ≤ (fun _ u => wN d p u : Nat → Nat → Nat) c u := fun _ u => w_pos d H.2.1 (h9 u)
      obtain ⟨y, row', q1, q2, q3⟩ := sweep_eq H (B := 4320 * j) (by omega) hb hr
      rw [q1, pcl_some]
      dsimp only
      rw [plt_eq, nI_1]
      have hs' := sw_sound (sea := seaN d) hs 48 (by omega)
      have hS' := src_keep (sea := seaN d) (e := fun _ u => wN d p u) hS
      refine sweeps_eq H h9 x1 n (j + 1) f row' (swV (seaN d) (fun _ u => wN d p u) V 48) y (by omega) (by omega) q2 (fun c k hk => ?_) hs' hS' ?_ ⟨q3.1, fun h0 => ?_⟩
      · have := sw_bd (seaN d) (e := fun _ u => wN d p u) (fun _ u => wN_le d H.2.2.1 u) hb 48 c k hk
        omega
      · rcases hc with hc | hc
        · rcases fct_up (sea := seaN d) he hS with g | g
          · exact Or.inr (fun c h1 => fin_mono (g c h1))
          · exact Or.inl (by omega)
        · exact Or.inr (fun c h1 => fin_mono (hc c h1))
      · have g := still_fin (sea := seaN d) he hS (q3.2 h0)
        exact fun c h1 => fin_mono (g c h1)
def V1 (g : Nat) : VF := fun c => if c = g then some 0 else none
theorem V1_s (g : Nat) : V1 g g = some 0 := if_pos rfl
theorem V1_n {g c : Nat} (h : c ≠ g) : V1 g c = none := if_neg h
/-- THE CLASS'S ROW TO A GOAL -/
theorem measure_eq {dp md : A32} {pc : Int32} {tu : A32} {d : Nat → Nat} {p : Nat} (H : OcOK dp md pc tu d p) (h9 : ∀ c, d c ≤ 9) {g : Nat} (hg : g < 48) (row0 : A32) : ∃ row V, f_X4_measureTo (nI g) pc row0 dp = some row ∧ RC row V ∧ Done (fun c => c = g ∧ c < 48 ∧ seaN d c) (seaN d) (fun _ u => wN d p u) V ∧ ∀ c k, V c = some k → k ≤ 300000 := by
  obtain ⟨d1, d2, -⟩ := H.1 g hg
  have hFU := FU_big
  have key := loop_up (fun fu i (s : A32) => f_X4_measureTo_2 pc dp (nI g) fu i s) (fun i s => upd s i (-9)) (fun s => pbr (dp g = 0) (some s) (f_X4_measureTo_38 pc dp (nI g) FU 1 0 (upd s g 0))) (fun i s => ∀ j, j < i → s j = -9) 48 (by omega) (fun fu s _ => ?_) (fun fu i s hi hs => ⟨?_, fun j hj => ?_⟩) row0 (fun j hj => absurd hj (by omega))
  · obtain ⟨k1, k2⟩ := key
    refine Exists.imp ?_ (show ∃ row V, pbr (dp g = 0) (some (fold (fun i s => upd s i (-9)) 48 row0)) (f_X4_measureTo_38 pc dp (nI g) FU 1 0 (upd (fold (fun i s => upd s i (-9)) 48 row0) g 0)) = some row ∧ RC row V ∧ Done (fun c => c = g ∧ c < 48 ∧ seaN d c) (seaN d) (fun _ u => wN d p u) V ∧ ∀ c k, V c = some k → k ≤ 300000 from ?_)
    · rintro row ⟨V, a, b⟩
      exact ⟨V, k1.trans a, b⟩
    · by_cases z : d g = 0
      · refine ⟨_, fun _ => none, pbr_pos (by rw [d2, z]; rfl), fun c hc => k2 c hc, ⟨fun c k h => (nomatch h), fun c hc n k hw => ?_⟩, fun c k h => (nomatch h)⟩
        exfalso
        have hk := PP_end (Wk_class.mp hw)
        have := hk.2
        unfold seaN at this
        omega
      · have hsea : seaN d g := Nat.pos_of_ne_zero z
        rw [pbr_neg (show ¬ dp g = 0 from by rw [d2]; exact eq_f (b := 0) z)]
        refine sweeps_eq H h9 (nI g) (S := fun c => c = g ∧ c < 48 ∧ seaN d c) 48 0 FU _ (V1 g) 1 (by omega) (by omega) (fun c hc => ?_) (fun c k hk => ?_) (fun c k hk => ?_) (fun c hc => ?_) (Or.inl (Nat.zero_le _)) ⟨Or.inr rfl, fun h => absurd h (by decide)⟩
        · by_cases q : c = g
          · subst q; rw [upd_s, V1_s]; rfl
          · rw [upd_n q, V1_n q]; exact k2 c hc
        · by_cases q : c = g
          · rw [q, V1_s] at hk; have := Option.some.inj hk; omega
          · rw [V1_n q] at hk; exact nomatch hk
        · by_cases q : c = g
          · subst q; rw [V1_s] at hk; exact ⟨0, ⟨rfl, hg, hsea⟩, (Option.some.inj hk).symm⟩
          · rw [V1_n q] at hk; exact nomatch hk
        · exact ⟨hc.2.1, by rw [hc.1]; exact V1_s g⟩
  · show f_X4_measureTo_2 pc dp (nI g) (fu + 1) (nI 48) s = _
    rw [f_X4_measureTo_2, pbr_pos (show (48 : Int32) ≤ nI 48 by decide), pgd_pos (pin_nI hg (by omega))]
    simp only [nI_cl (show g < 2147483648 by omega), plt_eq]
  · show f_X4_measureTo_2 pc dp (nI g) (fu + 1) (nI i) s = f_X4_measureTo_2 pc dp (nI g) fu (nI (i + 1)) (upd s i (-9))
    rw [f_X4_measureTo_2, pbr_neg (show ¬ (48 : Int32) ≤ nI i from le_f (a := 48) hi), pgd_pos (pin_nI hi (by omega))]
    simp only [nI_cl (show i < 2147483648 by omega), plt_eq, nI_1]
  · by_cases q : j = i
    · subst q; exact upd_s _ _ _
    · rw [upd_n q]; exact hs j (by omega)
/-- what the row tells of cell c -/
theorem row_dist {dp md : A32} {pc : Int32} {tu : A32} {d : Nat → Nat} {p : Nat} (H : OcOK dp md pc tu d p) (h9 : ∀ c, d c ≤ 9) {g : Nat} (hg : g < 48) (row0 : A32) : ∃ row, f_X4_measureTo (nI g) pc row0 dp = some row ∧ ∀ c, c < 48 → (row c = -9 ∧ ∀ n k, ¬ PP (seaN d) (wN d p) n c g k) ∨ ∃ k, k ≤ 300000 ∧ row c = nI k ∧ Dist (seaN d) (wN d p) c g k := by
  obtain ⟨row, V, h1, h2, h3, h4⟩ := measure_eq H h9 hg row0
  refine ⟨row, h1, fun c hc => ?_⟩
  have e := h2 c hc
  cases hv : V c with
  | none =>
    refine Or.inl ⟨by rw [e, hv]; rfl, fun n k hp => ?_⟩
    obtain ⟨q, -, q2⟩ := h3.2 c hc n k (Wk_class.mpr hp)
    rw [hv] at q2
    exact nomatch q2
  | some k =>
    refine Or.inr ⟨k, h4 c k hv, by rw [e, hv]; rfl, ?_⟩
    obtain ⟨⟨n, hn⟩, hm⟩ := (fin_unique h3.1 h3.2 hc k).mp hv
    exact ⟨⟨n, Wk_class.mp hn⟩, fun n q hp => hm n q (Wk_class.mpr hp)⟩
