/-! ===== the model's far ===== -/
def encM : Option Nat → Int32
  | none => 1000000
  | some k => nI k
def RM (far : A32) (V : VF) : Prop := ∀ c, c < 48 → far c = encM (V c)
theorem encM_bd {b : Option Nat} (h : ∀ k, b = some k → k ≤ 900000) : ∃ m : Nat, m ≤ 1000000 ∧ encM b = nI m ∧ (b = none → m = 1000000) ∧ (∀ k, b = some k → m = k) := by
  cases b with
  | none => exact ⟨1000000, by omega, rfl, fun _ => rfl, fun k h => (nomatch h)⟩
  | some k =>
    have := h k rfl
    exact ⟨k, by omega, rfl, fun h => (nomatch h), fun q hq => (Option.some.inj hq)⟩
/-- one neighbour -/
theorem om_step {α : Type} {b v : Option Nat} {w : Nat} (hw : w ≤ 90) (h1 : ∀ k, b = some k → k ≤ 900000) (h2 : ∀ k, v = some k → k ≤ 800000) (K : Int32 → Option α) : pbr (encM b ≤ encM v + nI w) (K (encM b)) (K (encM v + nI w)) = K (encM (om b v w)) := by
  obtain ⟨m, m1, m2, m3, m4⟩ := encM_bd h1
  cases v with
  | none =>
    rw [pbr_pos (show encM b ≤ encM none + nI w from by
      rw [m2, show encM none + nI w = nI (1000000 + w) from nI_add 1000000 w]
      exact le_t (by omega))]
    rfl
  | some k =>
    have hk := h2 k rfl
    have e : encM (some k) + nI w = nI (k + w) := nI_add k w
    rw [e]
    cases b with
    | none =>
      rw [pbr_neg (show ¬ encM none ≤ nI (k + w) from le_f (a := 1000000) (by omega))]
      rfl
    | some q =>
      have hq := h1 q rfl
      show pbr (nI q ≤ nI (k + w)) (K (nI q)) (K (nI (k + w))) = K (encM (if k + w < q then some (k + w) else some q))
      by_cases g : k + w < q
      · rw [pbr_neg (le_f g), if_pos g]; rfl
      · rw [pbr_pos (le_t (by omega)), if_neg g]; rfl
theorem into_eq {dp md : A32} {pc : Int32} {tu : A32} {d : Nat → Nat} {p : Nat} (H : OcOK dp md pc tu d p) {far : A32} {V : VF} {c : Nat} (hc : c < 48) (hb : ∀ j k, V j = some k → k ≤ 800000) (hr : RM far V) : f_X12_into (nI c) far tu md = some (encM (chV (fun c _ => wN d p c) V c)) := by
  obtain ⟨hd, p1, p2, -, ht⟩ := H
  obtain ⟨d1, -, d2⟩ := hd c hc
  have hw := wN_le d p2 c
  have e8 : nI c - nI c / 8 * 8 = nI (c % 8) := pk_rem (d := 8) (by omega) (by omega) (by omega)
  have ew : nI p * ((10 : Int32) - nI (d c)) = nI (wN d p c) := by rw [show (10 : Int32) - nI (d c) = nI (10 - d c) from nI_sub (a := 10) (by omega), nI_mul]; rfl
  have hB : ∀ {b v : Option Nat}, (∀ k, b = some k → k ≤ 900000) → (∀ k, v = some k → k ≤ 800000) → ∀ k, om b v (wN d p c) = some k → k ≤ 900000 := fun {b v} g1 g2 k hk => by
    rcases om_from b v (wN d p c) with q | ⟨r, r1, r2⟩
    · exact g1 k (q ▸ hk)
    · rw [r2] at hk
      have := Option.some.inj hk
      have := g2 r r1
      omega
  have b0 : ∀ k, V c = some k → k ≤ 900000 := fun k hk => Nat.le_trans (hb c k hk) (by omega)
  generalize hE : (fun c _ => wN d p c : Nat → Nat → Nat) = E
  have hEv : ∀ u, E c u = wN d p c := fun u => by rw [← hE]
  unfold f_X12_into f_X12_into_59
  rw [pgd_pos (pin_nI hc (by omega)), plt_eq, pgd_pos (pin_nI (by omega) (by omega)), plt_eq]
  simp only [nI_cl (show c < 2147483648 by omega), cl_0, ht, d2, ew, hr c hc]
  have s1 : (pbr (nI c < 8) (f_X12_into_60 far tu md (nI c) (nI (wN d p c)) (encM (V c))) (pgd (pin (nI c - 8) 48) (pbr (encM (V c) ≤ far (nI c - 8).toNatClampNeg + nI (wN d p c)) (f_X12_into_60 far tu md (nI c) (nI (wN d p c)) (encM (V c))) (f_X12_into_60 far tu md (nI c) (nI (wN d p c)) (far (nI c - 8).toNatClampNeg + nI (wN d p c)))))) = f_X12_into_60 far tu md (nI c) (nI (wN d p c)) (encM (ch1 E V c (V c))) ∧ ∀ k, ch1 E V c (V c) = some k → k ≤ 900000 := by
    unfold ch1
    by_cases g : 8 ≤ c
    · rw [if_pos g, hEv, pbr_neg (show ¬ nI c < 8 from lt_f (b := 8) g)]
      simp only [show nI c - 8 = nI (c - 8) from nI_sub (b := 8) g, nI_cl (show c - 8 < 2147483648 by omega), hr (c - 8) (by omega)]
      rw [pgd_pos (pin_nI (by omega) (by omega))]
      exact ⟨om_step hw b0 (hb _) (fun z => f_X12_into_60 far tu md (nI c) (nI (wN d p c)) z), hB b0 (hb _)⟩
    · rw [if_neg g, pbr_pos (show nI c < 8 from lt_t (b := 8) (by omega))]
      exact ⟨rfl, b0⟩
  refine s1.1.trans ?_
  have s2 : f_X12_into_60 far tu md (nI c) (nI (wN d p c)) (encM (ch1 E V c (V c))) = f_X12_into_97 far tu md (nI c) (nI (wN d p c)) (encM (ch2 E V c (ch1 E V c (V c)))) ∧ ∀ k, ch2 E V c (ch1 E V c (V c)) = some k → k ≤ 900000 := by
    unfold ch2 f_X12_into_60 f_X12_into_96
    by_cases g : c < 40
    · rw [if_pos g, hEv, pbr_neg (show ¬ (40 : Int32) ≤ nI c from le_f (a := 40) g)]
      simp only [show nI c + 8 = nI (c + 8) from nI_add c 8, nI_cl (show c + 8 < 2147483648 by omega), hr (c + 8) (by omega)]
      rw [pgd_pos (pin_nI (by omega) (by omega))]
      exact ⟨om_step hw s1.2 (hb _) (fun z => f_X12_into_97 far tu md (nI c) (nI (wN d p c)) z), hB s1.2 (hb _)⟩
    · rw [if_neg g, pbr_pos (show (40 : Int32) ≤ nI c from le_t (a := 40) (by omega))]
      exact ⟨rfl, s1.2⟩
  refine s2.1.trans ?_
  have s3 : f_X12_into_97 far tu md (nI c) (nI (wN d p c)) (encM (ch2 E V c (ch1 E V c (V c)))) = f_X12_into_133 far tu md (nI c) (nI (wN d p c)) (encM (ch3 E V c (ch2 E V c (ch1 E V c (V c))))) ∧ ∀ k, ch3 E V c (ch2 E V c (ch1 E V c (V c))) = some k → k ≤ 900000 := by
    unfold ch3 f_X12_into_97 f_X12_into_132
    by_cases g : c % 8 ≠ 0
    · rw [if_pos g, hEv]
      simp only [e8, show nI c - 1 = nI (c - 1) from nI_sub (b := 1) (by omega), nI_cl (show c - 1 < 2147483648 by omega), hr (c - 1) (by omega)]
      rw [pbr_neg (show ¬ nI (c % 8) ≤ 0 from le_f (b := 0) (by omega)), pgd_pos (pin_nI (by omega) (by omega))]
      exact ⟨om_step hw s2.2 (hb _) (fun z => f_X12_into_133 far tu md (nI c) (nI (wN d p c)) z), hB s2.2 (hb _)⟩
    · rw [if_neg g]
      simp only [e8]
      rw [pbr_pos (show nI (c % 8) ≤ 0 from le_t (b := 0) (by omega))]
      exact ⟨rfl, s2.2⟩
  refine s3.1.trans ?_
  unfold chV ch4 f_X12_into_133
  simp only [e8, plt_eq]
  by_cases g : c % 8 ≠ 7
  · rw [if_pos g, hEv]
    simp only [show nI c + 1 = nI (c + 1) from nI_1 c, nI_cl (show c + 1 < 2147483648 by omega), hr (c + 1) (by omega)]
    rw [pbr_neg (show ¬ (7 : Int32) ≤ nI (c % 8) from le_f (a := 7) (by omega)), pgd_pos (pin_nI (by omega) (by omega))]
    exact om_step hw s3.2 (hb _) (fun z => some z)
  · rw [if_neg g, pbr_pos (show (7 : Int32) ≤ nI (c % 8) from le_t (a := 7) (by omega))]
/-- a flag that tells exactly -/
def FlE (x : Int32) (P : Prop) : Prop := (x = 0 ∧ P) ∨ (x = 1 ∧ ¬ P)
theorem pass_cell {dp md : A32} {pc : Int32} {tu : A32} {d : Nat → Nat} {p : Nat} (H : OcOK dp md pc tu d p) {far : A32} {V : VF} {c : Nat} (hc : c < 48) (hb : ∀ j k, V j = some k → k ≤ 800000) (hr : RM far V) (hl : ¬ seaN d c → V c = none) {x1 : Int32} {P : Prop} (hx : FlE x1 P) (r2 : Int32 → A32 → Option A32) (fu : Nat) : ∃ y far', f_X12_spread_10 r2 md tu (fu + 1) x1 (nI c) far = f_X12_spread_10 r2 md tu fu y (nI (c + 1)) far' ∧ RM far' (if seaN d c then stV (fun c _ => wN d p c) V c else V) ∧ FlE y (P ∧ (if seaN d c then stV (fun c _ => wN d p c) V c else V) c = V c) := by
  have H' := H
  obtain ⟨hd, p1, p2, -, ht⟩ := H'
  obtain ⟨d1, -, d2⟩ := hd c hc
  have n10 : ¬ (1 : Int32) = 0 := by decide
  -- the store, and the flag
  have st : ∀ b : Option Nat, leO b (V c) → (∀ k, b = some k → k ≤ 900000) → ∃ y, f_X12_spread_35 r2 (f_X12_spread_10 r2 md tu fu) md tu x1 (nI c) (encM b) far = f_X12_spread_10 r2 md tu fu y (nI (c + 1)) (upd far c (encM b)) ∧ FlE y (P ∧ b = V c) := fun b hle hbb => by
    unfold f_X12_spread_35 f_X12_spread_50 f_X12_spread_55
    simp only [pgd_pos (pin_nI hc (show 48 < 2147483648 by omega)), plt_eq, nI_1, nI_cl (show c < 2147483648 by omega), hr c hc]
    rcases hx with ⟨rfl, hP⟩ | ⟨rfl, hP⟩
    · rw [pbr_pos rfl]
      obtain ⟨m, m1, m2, m3, m4⟩ := encM_bd hbb
      obtain ⟨q, q1, q2, q3, q4⟩ := encM_bd (b := V c) (fun k hk => Nat.le_trans (hb c k hk) (by omega))
      by_cases e : b = V c
      · rw [e, pbr_pos (show encM (V c) ≤ encM (V c) from by rw [q2]; exact le_t (by omega))]
        exact ⟨0, rfl, Or.inl ⟨rfl, hP, rfl⟩⟩
      · have hlt : m < q := by
          cases hv : V c with
          | none =>
            have := q3 hv
            cases hbv : b with
            | none => exact absurd (hbv.trans hv.symm) e
            | some k =>
              have := hbb k hbv
              have := m4 k hbv
              omega
          | some k =>
            obtain ⟨j, j1, j2⟩ := hle k hv
            have a1 := q4 k hv
            have a2 := m4 j j2
            have : j ≠ k := fun z => e (by rw [j2, hv, z])
            omega
        rw [pbr_neg (show ¬ encM (V c) ≤ encM b from by rw [q2, m2]; exact le_f hlt)]
        exact ⟨1, rfl, Or.inr ⟨rfl, fun z => e z.2⟩⟩
    · rw [pbr_neg n10]
      exact ⟨1, rfl, Or.inr ⟨rfl, fun z => hP z.1⟩⟩
  rw [f_X12_spread_10, pbr_neg (show ¬ (48 : Int32) ≤ nI c from le_f (a := 48) hc), pgd_pos (pin_nI (by omega) (by omega))]
  simp only [nI_cl (show c < 2147483648 by omega), d2]
  by_cases g : seaN d c
  · have g' : 0 < d c := g
    rw [pbr_neg (show ¬ nI (d c) ≤ 0 from le_f (b := 0) g'), into_eq H hc hb hr, pcl_some]
    have hbd : ∀ k, chV (fun c _ => wN d p c) V c = some k → k ≤ 900000 := fun k hk => by
      rcases chV_from _ V hk with a | ⟨u, q, a, b, e⟩
      · exact Nat.le_trans (hb c k a) (by omega)
      · have h1 := hb u q b
        have h2 := wN_le d p2 c
        have h3 : k = q + wN d p c := e
        omega
    obtain ⟨y, y1, y2⟩ := st _ (chV_le _ V c) hbd
    rw [if_pos g]
    refine ⟨y, _, y1, fun j hj => ?_, ?_⟩
    · unfold stV
      by_cases q : j = c
      · subst q; rw [upd_s, if_pos rfl]
      · rw [upd_n q, if_neg q]; exact hr j hj
    · have e : stV (fun c _ => wN d p c) V c c = chV (fun c _ => wN d p c) V c := if_pos rfl
      rw [e]; exact y2
  · have g' : d c = 0 := Nat.eq_zero_of_not_pos g
    have hv := hl g
    rw [pbr_pos (show nI (d c) ≤ 0 from by rw [g']; decide)]
    obtain ⟨y, y1, y2⟩ := st none (by rw [hv]; exact leO_refl _) (fun k hk => (nomatch hk))
    rw [if_neg g]
    refine ⟨y, _, y1, fun j hj => ?_, ?_⟩
    · by_cases q : j = c
      · subst q; rw [upd_s, hv]
      · rw [upd_n q]; exact hr j hj
    · rw [hv] at y2 ⊢
      exact y2
