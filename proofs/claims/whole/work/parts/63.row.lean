theorem om_bd {b v : Option Nat} {e B : Nat} (h1 : ∀ k, b = some k → k ≤ B + 90) (h2 : ∀ k, v = some k → k ≤ B) (he : e ≤ 90) : ∀ k, om b v e = some k → k ≤ B + 90 := fun k hk => by
  rcases om_from b v e with q | ⟨r, r1, r2⟩
  · exact h1 k (q ▸ hk)
  · rw [r2] at hk
    have := Option.some.inj hk
    have := h2 r r1
    omega
/-- a row in which cell c stands anew -/
def RCc (row : A32) (V : VF) (c : Nat) (b : Option Nat) : Prop := row c = encC b ∧ ∀ j, j < 48 → j ≠ c → row j = encC (V j)
/-- a flag: 0 says that P still holds -/
def Fl (x : Int32) (P : Prop) : Prop := (x = 0 ∨ x = 1) ∧ (x = 0 → P)
/-- one neighbour, and the flag -/
theorem nb_step {α : Type} {dp md : A32} {pc : Int32} {tu : A32} {d : Nat → Nat} {p : Nat} (H : OcOK dp md pc tu d p) {row : A32} {V : VF} {c u B : Nat} (hc : c < 48) (hu : u < 48) (huc : u ≠ c) (hB : B ≤ 1000000) (hb : ∀ j k, V j = some k → k ≤ B) {b : Option Nat} (hbb : ∀ k, b = some k → k ≤ B + 90) (hR : RCc row V c b) {x2 : Int32} {P : Prop} (hx : Fl x2 P) (K : Int32 → A32 → Option α) : ∃ y row', pcl (f_X4_shorten (nI c) (nI u) pc row dp) (fun x => match x with | (r, b1) => pbr (r = 0) (K x2 b1) (K 1 b1)) = K y row' ∧ RCc row' V c (om b (V u) (wN d p u)) ∧ (∀ k, om b (V u) (wN d p u) = some k → k ≤ B + 90) ∧ Fl y (P ∧ om b (V u) (wN d p u) = b) := by
  obtain ⟨f, row', q1, q2, q3, q4⟩ := shorten_eq H hc hu hB hb hbb hR.1 (hR.2 u hu huc)
  rw [q1, pcl_some]
  have hbd := om_bd hbb (fun k hk => hb u k hk) (wN_le d H.2.2.1 u)
  have hR' : RCc row' V c (om b (V u) (wN d p u)) := ⟨q2, fun j h1 h2 => (q3 j h2).trans (hR.2 j h1 h2)⟩
  rcases q4 with ⟨rfl, e⟩ | rfl
  · exact ⟨x2, row', pbr_pos rfl, hR', hbd, hx.1, fun h => ⟨hx.2 h, e⟩⟩
  · exact ⟨1, row', pbr_neg (by decide), hR', hbd, Or.inr rfl, fun h => absurd h (by decide)⟩
/-- one cell of a sweep -/
theorem sweep_cell {dp md : A32} {pc : Int32} {tu : A32} {d : Nat → Nat} {p : Nat} (H : OcOK dp md pc tu d p) {row : A32} {V : VF} {c B : Nat} (hc : c < 48) (hB : B ≤ 1000000) (hb : ∀ j k, V j = some k → k ≤ B) (hr : RC row V) (hs : seaN d c) {x2 : Int32} {P : Prop} (hx : Fl x2 P) (fu : Nat) : ∃ y2 row', f_X4_sweep_4 pc dp (fu + 1) x2 (nI c) row = f_X4_sweep_4 pc dp fu y2 (nI (c + 1)) row' ∧ RC row' (stV (fun _ u => wN d p u) V c) ∧ Fl y2 (P ∧ chV (fun _ u => wN d p u) V c = V c) := by
  have H' := H
  obtain ⟨hd, p1, p2, -, -⟩ := H'
  obtain ⟨d1, d2, -⟩ := hd c hc
  have hs' : 0 < d c := hs
  have e8 : nI c - nI c / 8 * 8 = nI (c % 8) := pk_rem (d := 8) (by omega) (by omega) (by omega)
  generalize hE : (fun _ u => wN d p u : Nat → Nat → Nat) = E
  have hEv : ∀ u, E c u = wN d p u := fun u => by rw [← hE]
  have hR0 : RCc row V c (V c) := ⟨hr c hc, fun j h1 _ => hr j h1⟩
  have hb0 : ∀ k, V c = some k → k ≤ B + 90 := fun k hk => Nat.le_trans (hb c k hk) (by omega)
  rw [f_X4_sweep_4, pbr_neg (show ¬ (48 : Int32) ≤ nI c from le_f (a := 48) hc), pgd_pos (pin_nI hc (by omega))]
  simp only [nI_cl (show c < 2147483648 by omega), d2, e8, plt_eq]
  rw [pbr_neg (show ¬ nI (d c) = 0 from eq_f (b := 0) (by omega))]
  have s1 : ∃ y row', (pbr (nI c < 8) (f_X4_sweep_49 (f_X4_sweep_4 pc dp fu) pc dp x2 (nI c) (nI (c % 8)) row) (pcl (f_X4_shorten (nI c) (nI c - 8) pc row dp) (fun x => match x with | (r, b1) => pbr (r = 0) (f_X4_sweep_49 (f_X4_sweep_4 pc dp fu) pc dp x2 (nI c) (nI (c % 8)) b1) (f_X4_sweep_49 (f_X4_sweep_4 pc dp fu) pc dp 1 (nI c) (nI (c % 8)) b1)))) = f_X4_sweep_49 (f_X4_sweep_4 pc dp fu) pc dp y (nI c) (nI (c % 8)) row' ∧ RCc row' V c (ch1 E V c (V c)) ∧ (∀ k, ch1 E V c (V c) = some k → k ≤ B + 90) ∧ Fl y (P ∧ ch1 E V c (V c) = V c) := by
    unfold ch1
    by_cases g : 8 ≤ c
    · rw [if_pos g, hEv, pbr_neg (show ¬ nI c < 8 from lt_f (b := 8) g), show nI c - 8 = nI (c - 8) from nI_sub (b := 8) g]
      exact nb_step H hc (by omega) (by omega) hB hb hb0 hR0 hx (fun z r => f_X4_sweep_49 (f_X4_sweep_4 pc dp fu) pc dp z (nI c) (nI (c % 8)) r)
    · rw [if_neg g, pbr_pos (show nI c < 8 from lt_t (b := 8) (by omega))]
      exact ⟨x2, row, rfl, hR0, hb0, hx.1, fun h => ⟨hx.2 h, rfl⟩⟩
  obtain ⟨y1, r1, t1, t2, t3, t4⟩ := s1
  have s2 : ∃ y row', f_X4_sweep_49 (f_X4_sweep_4 pc dp fu) pc dp y1 (nI c) (nI (c % 8)) r1 = f_X4_sweep_70 (f_X4_sweep_4 pc dp fu) pc dp y (nI c) (nI (c % 8)) row' ∧ RCc row' V c (ch2 E V c (ch1 E V c (V c))) ∧ (∀ k, ch2 E V c (ch1 E V c (V c)) = some k → k ≤ B + 90) ∧ Fl y ((P ∧ ch1 E V c (V c) = V c) ∧ ch2 E V c (ch1 E V c (V c)) = ch1 E V c (V c)) := by
    unfold ch2 f_X4_sweep_49
    by_cases g : c < 40
    · rw [if_pos g, hEv, pbr_neg (show ¬ (40 : Int32) ≤ nI c from le_f (a := 40) g), show nI c + 8 = nI (c + 8) from nI_add c 8]
      exact nb_step H hc (by omega) (by omega) hB hb t3 t2 t4 (fun z r => f_X4_sweep_70 (f_X4_sweep_4 pc dp fu) pc dp z (nI c) (nI (c % 8)) r)
    · rw [if_neg g, pbr_pos (show (40 : Int32) ≤ nI c from le_t (a := 40) (by omega))]
      exact ⟨y1, r1, rfl, t2, t3, t4.1, fun h => ⟨t4.2 h, rfl⟩⟩
  obtain ⟨y2, r2, u1, u2, u3, u4⟩ := s2
  have s3 : ∃ y row', f_X4_sweep_70 (f_X4_sweep_4 pc dp fu) pc dp y2 (nI c) (nI (c % 8)) r2 = f_X4_sweep_89 (f_X4_sweep_4 pc dp fu) pc dp y (nI c) (nI (c % 8)) row' ∧ RCc row' V c (ch3 E V c (ch2 E V c (ch1 E V c (V c)))) ∧ (∀ k, ch3 E V c (ch2 E V c (ch1 E V c (V c))) = some k → k ≤ B + 90) ∧ Fl y (((P ∧ ch1 E V c (V c) = V c) ∧ ch2 E V c (ch1 E V c (V c)) = ch1 E V c (V c)) ∧ ch3 E V c (ch2 E V c (ch1 E V c (V c))) = ch2 E V c (ch1 E V c (V c))) := by
    unfold ch3 f_X4_sweep_70
    by_cases g : c % 8 ≠ 0
    · rw [if_pos g, hEv, pbr_neg (show ¬ nI (c % 8) ≤ 0 from le_f (b := 0) (by omega)), show nI c - 1 = nI (c - 1) from nI_sub (b := 1) (by omega)]
      exact nb_step H hc (by omega) (by omega) hB hb u3 u2 u4 (fun z r => f_X4_sweep_89 (f_X4_sweep_4 pc dp fu) pc dp z (nI c) (nI (c % 8)) r)
    · rw [if_neg g, pbr_pos (show nI (c % 8) ≤ 0 from le_t (b := 0) (by omega))]
      exact ⟨y2, r2, rfl, u2, u3, u4.1, fun h => ⟨u4.2 h, rfl⟩⟩
  obtain ⟨y3, r3, v1, v2, v3, v4⟩ := s3
  have s4 : ∃ y row', f_X4_sweep_89 (f_X4_sweep_4 pc dp fu) pc dp y3 (nI c) (nI (c % 8)) r3 = f_X4_sweep_4 pc dp fu y (nI (c + 1)) row' ∧ RCc row' V c (chV E V c) ∧ Fl y ((((P ∧ ch1 E V c (V c) = V c) ∧ ch2 E V c (ch1 E V c (V c)) = ch1 E V c (V c)) ∧ ch3 E V c (ch2 E V c (ch1 E V c (V c))) = ch2 E V c (ch1 E V c (V c))) ∧ chV E V c = ch3 E V c (ch2 E V c (ch1 E V c (V c)))) := by
    unfold chV ch4 f_X4_sweep_89
    simp only [plt_eq, nI_1]
    by_cases g : c % 8 ≠ 7
    · rw [if_pos g, hEv, pbr_neg (show ¬ (7 : Int32) ≤ nI (c % 8) from le_f (a := 7) (by omega))]
      obtain ⟨y, row', w1, w2, w3, w4⟩ := nb_step H hc (show c + 1 < 48 by omega) (by omega) hB hb v3 v2 v4 (fun z r => f_X4_sweep_4 pc dp fu z (nI (c + 1)) r)
      exact ⟨y, row', w1, w2, w4⟩
    · rw [if_neg g, pbr_pos (show (7 : Int32) ≤ nI (c % 8) from le_t (a := 7) (by omega))]
      exact ⟨y3, r3, rfl, v2, v4.1, fun h => ⟨v4.2 h, rfl⟩⟩
  obtain ⟨y4, r4, z1, z2, z3⟩ := s4
  refine ⟨y4, r4, t1.trans (u1.trans (v1.trans z1)), fun j hj => ?_, z3.1, fun h => ?_⟩
  · unfold stV
    by_cases q : j = c
    · subst q; rw [if_pos rfl]; exact z2.1
    · rw [if_neg q]; exact z2.2 j hj q
  · obtain ⟨⟨⟨⟨a1, a2⟩, a3⟩, a4⟩, a5⟩ := z3.2 h
    exact ⟨a1, a5.trans (a4.trans (a3.trans a2))⟩
/-- a whole sweep -/
theorem sweep_eq {dp md : A32} {pc : Int32} {tu : A32} {d : Nat → Nat} {p : Nat} (H : OcOK dp md pc tu d p) {row : A32} {V : VF} {B : Nat} (hB : B ≤ 500000) (hb : ∀ j k, V j = some k → k ≤ B) (hr : RC row V) : ∃ f row', f_X4_sweep pc row dp = some (f, row') ∧ RC row' (swV (seaN d) (fun _ u => wN d p u) V 48) ∧ Fl f (∀ c, c < 48 → swV (seaN d) (fun _ u => wN d p u) V 48 c = V c) := by
  have H' := H
  obtain ⟨hd, p1, p2, -, -⟩ := H'
  have hFU := FU_big
  have key := loop_ex (fun fu i (s : Int32 × A32) => f_X4_sweep_4 pc dp fu s.1 i s.2) (fun i s => RC s.2 (swV (seaN d) (fun _ u => wN d p u) V i) ∧ Fl s.1 (∀ c, swV (seaN d) (fun _ u => wN d p u) V i c = V c)) 48 (fun fu c s hc hI => ?_) 48 0 FU (0, row) (by omega) (by omega) ⟨hr, Or.inl rfl, fun _ _ => rfl⟩
  · obtain ⟨s, k, h1, h2, h3⟩ := key
    refine ⟨s.1, s.2, h3.trans ?_, h1.1, h1.2.1, fun h c _ => h1.2.2 h c⟩
    show f_X4_sweep_4 pc dp (k + 1) s.1 (nI 48) s.2 = _
    rw [f_X4_sweep_4, pbr_pos (show (48 : Int32) ≤ nI 48 by decide), pgd_pos h1.2.1]
  · obtain ⟨d1, d2, -⟩ := hd c hc
    have hbd := sw_bd (seaN d) (e := fun _ u => wN d p u) (fun _ u => wN_le d p2 u) hb c
    have e1 : swV (seaN d) (fun _ u => wN d p u) V (c + 1) = if seaN d c then stV (fun _ u => wN d p u) (swV (seaN d) (fun _ u => wN d p u) V c) c else swV (seaN d) (fun _ u => wN d p u) V c := rfl
    by_cases g : seaN d c
    · obtain ⟨y2, row', q1, q2, q3⟩ := sweep_cell H hc (show B + 90 * c ≤ 1000000 by omega) hbd hI.1 g hI.2 fu
      rw [e1, if_pos g]
      refine ⟨(y2, row'), ⟨q2, q3.1, fun h j => ?_⟩, q1⟩
      obtain ⟨a1, a2⟩ := q3.2 h
      unfold stV
      by_cases z : j = c
      · subst z; rw [if_pos rfl, a2]; exact a1 _
      · rw [if_neg z]; exact a1 j
    · have g' : d c = 0 := Nat.eq_zero_of_not_pos g
      rw [e1, if_neg g]
      refine ⟨s, hI, ?_⟩
      show f_X4_sweep_4 pc dp (fu + 1) s.1 (nI c) s.2 = f_X4_sweep_4 pc dp fu s.1 (nI (c + 1)) s.2
      rw [f_X4_sweep_4, pbr_neg (show ¬ (48 : Int32) ≤ nI c from le_f (a := 48) hc), pgd_pos (pin_nI hc (by omega))]
      simp only [nI_cl (show c < 2147483648 by omega), d2, g', plt_eq, nI_1]
      rw [pbr_pos (show nI 0 = 0 from rfl)]
