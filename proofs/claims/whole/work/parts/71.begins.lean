/-- the time as a number of the machine: 0 where there is none -/
def tI (t : Nat → Option Nat) (b : Nat) : Int32 := match t b with
  | none => 0
  | some k => nI k
def mxS (v : A32) (b : Nat) (x : Int32) : Int32 := if x < v b then v b else x
def mnS (v : A32) (b : Nat) (x : Int32) : Int32 := if v b < x then v b else x
/-- the first hour, the last hour -/
def eC (fr : A32) (t : Nat → Option Nat) (n : Nat) : Int32 := foldI (mxS (fun b => fr b - tI t b)) 1 (n - 1) (fr 0 - tI t 0)
def lC (to : A32) (t : Nat → Option Nat) (n : Nat) : Int32 := foldI (mnS (fun b => to b - tI t b)) 1 (n - 1) (to 0 - tI t 0)
def come (t : Nat → Option Nat) (n : Nat) : Prop := ∀ b, b < n → ∃ k, t b = some k
theorem come_eq {d : Nat → Nat} {cl fr to lo hi books told : A32} {n : Nat} {cN : Nat → Nat} (K : BkOK cl fr to lo hi books told n cN) {times : G32} {far : A32} {a : Nat} {t : Nat → Option Nat} (T : TmOK d n cN times far a t) : ∀ (c i fu : Nat), i + c = n → c < fu → ((∀ b, i ≤ b → b < n → ∃ k, t b = some k) ∧ f_X5_comesToAll_2 (nI n) times (nI a) fu (nI i) = some 1) ∨ ((¬ ∀ b, i ≤ b → b < n → ∃ k, t b = some k) ∧ f_X5_comesToAll_2 (nI n) times (nI a) fu (nI i) = some 0)
  | 0, i, fu, h, hfu => by
    obtain ⟨fu', rfl⟩ : ∃ f, fu = f + 1 := ⟨fu - 1, by omega⟩
    have K' := K.1
    refine Or.inl ⟨fun b h1 h2 => absurd h2 (by omega), ?_⟩
    rw [f_X5_comesToAll_2, pbr_pos (le_t (by omega))]
  | c + 1, i, fu, h, hfu => by
    obtain ⟨fu', rfl⟩ : ∃ f, fu = f + 1 := ⟨fu - 1, by omega⟩
    have K' := K.1
    obtain ⟨t1, t2, t3⟩ := T.2 i (by omega)
    rw [f_X5_comesToAll_2, pbr_neg (le_f (by omega)), pgd_pos (pin_nI (by omega) (by omega)), pgd_pos (pin_nI T.1 (by omega))]
    have ha := T.1
    simp only [nI_cl (show i < 2147483648 by omega), nI_cl (show a < 2147483648 by omega), t1, plt_eq, nI_1]
    cases hv : t i with
    | none =>
      rw [pbr_pos (show encC none = -9 from rfl)]
      refine Or.inr ⟨fun q => ?_, rfl⟩
      obtain ⟨k, k1⟩ := q i (Nat.le_refl i) (by omega)
      rw [hv] at k1
      exact nomatch k1
    | some k =>
      rw [pbr_neg (show ¬ encC (some k) = -9 from nI_ne9 (by have := (t3 k hv).1; omega))]
      rcases come_eq K T c (i + 1) fu' (by omega) (by omega) with ⟨q1, q2⟩ | ⟨q1, q2⟩
      · refine Or.inl ⟨fun b h1 h2 => ?_, q2⟩
        by_cases z : b = i
        · subst z; exact ⟨k, hv⟩
        · exact q1 b (by omega) h2
      · exact Or.inr ⟨fun q => q1 (fun b h1 h2 => q b (by omega) h2), q2⟩
theorem times_tI {d : Nat → Nat} {n : Nat} {cN : Nat → Nat} {times : G32} {far : A32} {a : Nat} {t : Nat → Option Nat} (T : TmOK d n cN times far a t) (hc : come t n) {b : Nat} (hb : b < n) : times b a = tI t b ∧ far (cN b) = tI t b ∧ ∃ k, k ≤ 300000 ∧ tI t b = nI k := by
  obtain ⟨t1, t2, t3⟩ := T.2 b hb
  obtain ⟨k, hk⟩ := hc b hb
  have e : tI t b = nI k := by unfold tI; rw [hk]
  exact ⟨by rw [t1, hk, e]; rfl, by rw [t2, hk, e]; rfl, k, (t3 k hk).1, e⟩
theorem earliest_eq {d : Nat → Nat} {cl fr to lo hi books told : A32} {n : Nat} {cN : Nat → Nat} (K : BkOK cl fr to lo hi books told n cN) (hn : 1 ≤ n) {times : G32} {far : A32} {a : Nat} {t : Nat → Option Nat} (T : TmOK d n cN times far a t) (hc : come t n) : f_X5_earliestBegin (nI a) (nI n) fr times = some (eC fr t n) := by
  have K' := K.1
  have ha := T.1
  have hFU := FU_big
  unfold f_X5_earliestBegin eC
  rw [pgd_pos (pin_nI ha (by omega)), plt_eq, cl_0, nI_cl (by omega), (times_tI T hc (show 0 < n by omega)).1]
  refine (loop_upI (fun fu i x => f_X5_earliestBegin_21 (nI n) fr times (nI a) fu x i) (mxS (fun b => fr b - tI t b)) some (fun _ _ => True) n (fun fu x _ => ?_) (fun fu i x hi _ => ⟨?_, trivial⟩) (n - 1) 1 FU _ (by omega) (by omega) trivial).1
  · show f_X5_earliestBegin_21 (nI n) fr times (nI a) (fu + 1) x (nI n) = _
    rw [f_X5_earliestBegin_21, pbr_pos (le_t (by omega))]
  · show f_X5_earliestBegin_21 (nI n) fr times (nI a) (fu + 1) x (nI i) = f_X5_earliestBegin_21 (nI n) fr times (nI a) fu _ (nI (i + 1))
    rw [f_X5_earliestBegin_21, pbr_neg (le_f hi), pgd_pos (pin_nI (by omega) (by omega)), pgd_pos (pin_nI ha (by omega))]
    simp only [nI_cl (show i < 2147483648 by omega), nI_cl (show a < 2147483648 by omega), (times_tI T hc hi).1, plt_eq, nI_1]
    rfl
theorem latest_eq {d : Nat → Nat} {cl fr to lo hi books told : A32} {n : Nat} {cN : Nat → Nat} (K : BkOK cl fr to lo hi books told n cN) (hn : 1 ≤ n) {times : G32} {far : A32} {a : Nat} {t : Nat → Option Nat} (T : TmOK d n cN times far a t) (hc : come t n) : f_X5_latestBegin (nI a) (nI n) to times = some (lC to t n) := by
  have K' := K.1
  have ha := T.1
  have hFU := FU_big
  unfold f_X5_latestBegin lC
  rw [pgd_pos (pin_nI ha (by omega)), plt_eq, cl_0, nI_cl (by omega), (times_tI T hc (show 0 < n by omega)).1]
  refine (loop_upI (fun fu i x => f_X5_latestBegin_21 (nI n) to times (nI a) fu x i) (mnS (fun b => to b - tI t b)) some (fun _ _ => True) n (fun fu x _ => ?_) (fun fu i x hi _ => ⟨?_, trivial⟩) (n - 1) 1 FU _ (by omega) (by omega) trivial).1
  · show f_X5_latestBegin_21 (nI n) to times (nI a) (fu + 1) x (nI n) = _
    rw [f_X5_latestBegin_21, pbr_pos (le_t (by omega))]
  · show f_X5_latestBegin_21 (nI n) to times (nI a) (fu + 1) x (nI i) = f_X5_latestBegin_21 (nI n) to times (nI a) fu _ (nI (i + 1))
    rw [f_X5_latestBegin_21, pbr_neg (le_f hi), pgd_pos (pin_nI (by omega) (by omega)), pgd_pos (pin_nI ha (by omega))]
    simp only [nI_cl (show i < 2147483648 by omega), nI_cl (show a < 2147483648 by omega), (times_tI T hc hi).1, plt_eq, nI_1]
    rfl
/-- bounds -/
theorem vb {cl fr to lo hi books told : A32} {n : Nat} {cN : Nat → Nat} (K : BkOK cl fr to lo hi books told n cN) {d : Nat → Nat} {times : G32} {far : A32} {a : Nat} {t : Nat → Option Nat} (T : TmOK d n cN times far a t) (hc : come t n) {b : Nat} (hb : b < n) : -400000 ≤ (fr b - tI t b).toInt ∧ (fr b - tI t b).toInt ≤ 400000 ∧ -400000 ≤ (to b - tI t b).toInt ∧ (to b - tI t b).toInt ≤ 400000 := by
  obtain ⟨-, -, -, -, -, -, -, ⟨h1, h2, h3⟩, -⟩ := K.2.2 b hb
  obtain ⟨-, -, k, k1, k2⟩ := times_tI T hc hb
  rw [k2]
  have e := nI_int (show k < 2147483648 by omega)
  rw [i_sub (by omega) (by omega), i_sub (by omega) (by omega), e]
  omega
theorem foldI_inv {σ : Type} {st : Nat → σ → σ} {I : σ → Prop} {N : Nat} (h : ∀ i s, i < N → I s → I (st i s)) : ∀ (c i : Nat) (s : σ), i + c ≤ N → I s → I (foldI st i c s)
  | 0, i, s, _, hs => hs
  | c + 1, i, s, hi, hs => foldI_inv h c (i + 1) (st i s) (by omega) (h i s (by omega) hs)
theorem el_rng {cl fr to lo hi books told : A32} {n : Nat} {cN : Nat → Nat} (K : BkOK cl fr to lo hi books told n cN) (hn : 1 ≤ n) {d : Nat → Nat} {times : G32} {far : A32} {a : Nat} {t : Nat → Option Nat} (T : TmOK d n cN times far a t) (hc : come t n) : (-400000 ≤ (eC fr t n).toInt ∧ (eC fr t n).toInt ≤ 400000) ∧ -400000 ≤ (lC to t n).toInt ∧ (lC to t n).toInt ≤ 400000 := by
  have h0 := vb K T hc (show 0 < n by omega)
  constructor
  · refine foldI_inv (I := fun x : Int32 => -400000 ≤ x.toInt ∧ x.toInt ≤ 400000) (N := n) (fun i x hi hx => ?_) (n - 1) 1 _ (by omega) ⟨h0.1, h0.2.1⟩
    unfold mxS
    have := vb K T hc hi
    by_cases e : x < fr i - tI t i
    · rw [if_pos e]; exact ⟨this.1, this.2.1⟩
    · rw [if_neg e]; exact hx
  · refine foldI_inv (I := fun x : Int32 => -400000 ≤ x.toInt ∧ x.toInt ≤ 400000) (N := n) (fun i x hi hx => ?_) (n - 1) 1 _ (by omega) ⟨h0.2.2.1, h0.2.2.2⟩
    unfold mnS
    have := vb K T hc hi
    by_cases e : to i - tI t i < x
    · rw [if_pos e]; exact ⟨this.2.2.1, this.2.2.2⟩
    · rw [if_neg e]; exact hx
/-- how many beginnings the hours leave -/
def r1 (fr to : A32) (t : Nat → Option Nat) (n : Nat) : Int32 := if eC fr t n ≤ lC to t n then lC to t n - eC fr t n + 1 else 0
theorem byHours_eq {cl fr to lo hi books told : A32} {n : Nat} {cN : Nat → Nat} (K : BkOK cl fr to lo hi books told n cN) (hn : 1 ≤ n) {d : Nat → Nat} {times : G32} {far : A32} {a : Nat} {t : Nat → Option Nat} (T : TmOK d n cN times far a t) : (come t n ∧ f_X5_beginsByHours (nI a) (nI n) to fr times = some (r1 fr to t n)) ∨ (¬ come t n ∧ f_X5_beginsByHours (nI a) (nI n) to fr times = some 0) := by
  have hFU := FU_big
  have K' := K.1
  unfold f_X5_beginsByHours f_X5_comesToAll
  rcases come_eq K T n 0 FU (by omega) (by omega) with ⟨q1, q2⟩ | ⟨q1, q2⟩
  · have hc : come t n := fun b hb => q1 b (by omega) hb
    obtain ⟨⟨e1, e2⟩, e3, e4⟩ := el_rng K hn T hc
    refine Or.inl ⟨hc, ?_⟩
    rw [show (0 : Int32) = nI 0 from rfl, q2, pcl_some, pbr_neg (show ¬ (1 : Int32) = nI 0 by decide), latest_eq K hn T hc, earliest_eq K hn T hc, pcl_some, pcl_some]
    unfold r1
    have es : (lC to t n - eC fr t n).toInt = (lC to t n).toInt - (eC fr t n).toInt := i_sub (by omega) (by omega)
    have e1' : (1 : Int32).toInt = 1 := by decide
    have e0' : (nI 0 : Int32).toInt = 0 := by decide
    have ea : (lC to t n - eC fr t n + 1).toInt = (lC to t n).toInt - (eC fr t n).toInt + 1 := by rw [i_add (by omega) (by omega), es, e1']
    by_cases g : eC fr t n ≤ lC to t n
    · rw [if_pos g, if_pos (by rw [i_lt, ea, e0']; rw [i_le] at g; omega)]
    · rw [if_neg g, if_neg (by rw [i_lt, ea, e0']; rw [i_le] at g; omega)]
      rfl
  · refine Or.inr ⟨fun hc => q1 (fun b _ hb => hc b hb), ?_⟩
    rw [show (0 : Int32) = nI 0 from rfl, q2, pcl_some, pbr_pos (show (0 : Int32) = nI 0 from rfl)]
