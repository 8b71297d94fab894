/-! ===== pure programs: what a method does, as an Option; none where the machine itself would throw ===== -/
def pgd {α : Type} (c : Prop) [Decidable c] (k : Option α) : Option α := if c then k else none
def pbr {α : Type} (c : Prop) [Decidable c] (a b : Option α) : Option α := if c then a else b
def pcl {α β : Type} (x : Option α) (k : α → Option β) : Option β := x.bind k
def plt {α β : Type} (x : α) (k : α → β) : β := k x
theorem pgd_e {α : Type} {c : Prop} {i : Decidable c} {k : Option α} {o : α} (h : @pgd α c i k = some o) : c ∧ k = some o := by
  unfold pgd at h
  by_cases q : c
  · rw [if_pos q] at h; exact ⟨q, h⟩
  · rw [if_neg q] at h; cases h
theorem pbr_t {α : Type} {c : Prop} {i : Decidable c} {a b : Option α} {o : α} (q : c) (h : @pbr α c i a b = some o) : a = some o := by
  unfold pbr at h
  rw [if_pos q] at h
  exact h
theorem pbr_f {α : Type} {c : Prop} {i : Decidable c} {a b : Option α} {o : α} (q : ¬ c) (h : @pbr α c i a b = some o) : b = some o := by
  unfold pbr at h
  rw [if_neg q] at h
  exact h
theorem pbr_nt {α : Type} {c : Prop} {i : Decidable (¬ c)} {a b : Option α} {o : α} (q : c) (h : @pbr α (¬ c) i a b = some o) : b = some o := pbr_f (fun z => z q) h
theorem pcl_e {α β : Type} {x : Option α} {k : α → Option β} {o : β} (h : pcl x k = some o) : ∃ v, x = some v ∧ k v = some o := by
  unfold pcl at h
  cases x with
  | none => cases h
  | some v => exact ⟨v, rfl, h⟩
theorem plt_e {α β : Type} {x e : α} {k : α → Option β} {o : β} (ex : x = e) (h : plt e k = some o) : k x = some o := by
  subst ex
  exact h
/-- how often a loop may turn: far above what any run needs -/
def FU : Nat := 1000000000
/-! ===== a part of a world put back in its places ===== -/
def wput (ws : va_W) (l : List (Nat × (Nat × va_E))) : va_W := l.foldl (fun w q => w.set q.1 q.2) ws
theorem wput_get : ∀ (is : List Nat) (W1 : va_W) (ws : va_W), is.length = W1.length → ∀ (k : Nat) (q : Nat × va_E), (wput ws (is.zip W1))[k]? = some q → (∃ j : Nat, is[j]? = some k ∧ W1[j]? = some q) ∨ (k ∉ is ∧ ws[k]? = some q)
  | [], _, ws, _, k, q, h => Or.inr ⟨List.not_mem_nil, h⟩
  | i :: is, [], ws, hl, _, _, _ => absurd hl (by simp)
  | i :: is, w :: W1, ws, hl, k, q, h => by
    have hl' : is.length = W1.length := by simpa using hl
    have h' : (wput (ws.set i w) (is.zip W1))[k]? = some q := h
    rcases wput_get is W1 (ws.set i w) hl' k q h' with ⟨j, h1, h2⟩ | ⟨h1, h2⟩
    · exact Or.inl ⟨j + 1, by simpa using h1, by simpa using h2⟩
    · by_cases e : k = i
      · subst e
        have hlt : k < ws.length := by
          have := (List.getElem?_eq_some_iff.mp h2).1
          simpa using this
        rw [List.getElem?_set_self hlt] at h2
        exact Or.inl ⟨0, rfl, h2⟩
      · rw [List.getElem?_set_ne (Ne.symm e)] at h2
        exact Or.inr ⟨fun z => (List.mem_cons.mp z).elim e h1, h2⟩
theorem pick_at {is : List Nat} {ws w : va_W} (hs : is.map (fun i => ws[i]?) = w.map some) (k : Nat) (q : Nat × va_E) (hq : w[k]? = some q) : ∃ i, is[k]? = some i ∧ ws[i]? = some q := by
  have h1 : (is.map (fun i => ws[i]?))[k]? = some (some q) := by rw [hs, List.getElem?_map, hq]; rfl
  rw [List.getElem?_map] at h1
  cases hi : is[k]? with
  | none => rw [hi] at h1; cases h1
  | some i => rw [hi] at h1; exact ⟨i, rfl, Option.some.inj h1⟩
theorem wput_PD {A : Nat → Prop} {D : va_G} {cl : List vw_C} {ws W0 W1 ws' : va_W} {H H1 : Heap} (hP : va_P D cl ws H) (hD : va_D A ws) (is : List Nat) (hC : is.map (fun i => ws[i]?) = W0.map some) (hadd : W1.map (fun q => q.1) = W0.map (fun q => q.1)) (hW : wput ws (is.zip W1) = ws')
    (hk : ∀ q : Nat, q < H.size → ¬ va_A W0 H.size q → H1[q]? = H[q]?) (hP1 : va_P D cl W1 H1) : va_P D cl ws' H1 ∧ va_D A ws' := by
  subst hW
  have l1 : is.length = W0.length := by simpa using congrArg List.length hC
  have l2 : W1.length = W0.length := by simpa using congrArg List.length hadd
  have key := wput_get is W1 ws (l1.trans l2.symm)
  have same : ∀ (k : Nat) (q : Nat × va_E), (wput ws (is.zip W1))[k]? = some q → ∃ q0, ws[k]? = some q0 ∧ q0.1 = q.1 := by
    intro k q h
    rcases key k q h with ⟨j, h1, h2⟩ | ⟨-, h2⟩
    · have hj : j < W0.length := by rw [← l2]; exact (List.getElem?_eq_some_iff.mp h2).1
      have h3 : W0[j]? = some W0[j] := List.getElem?_eq_getElem hj
      obtain ⟨i, h4, h5⟩ := pick_at hC j W0[j] h3
      rw [h1] at h4
      cases h4
      refine ⟨W0[j], h5, ?_⟩
      have e1 : (W1.map (fun q => q.1))[j]? = some q.1 := by rw [List.getElem?_map, h2]; rfl
      have e2 : (W0.map (fun q => q.1))[j]? = some (W0[j]).1 := by rw [List.getElem?_map, h3]; rfl
      rw [hadd, e2] at e1
      exact Option.some.inj e1
    · exact ⟨q, h2, rfl⟩
  refine ⟨fun k q h => ?_, fun i j x y hi hj hxy => ?_, fun k q h => ?_⟩
  · rcases key k q h with ⟨j, h1, h2⟩ | ⟨h1, h2⟩
    · exact hP1 j q h2
    · have hl := (hP k q h2).lt
      refine (hP k q h2).kept (hk q.1 hl ?_)
      rintro (⟨k2, e, h3⟩ | h3)
      · obtain ⟨i, h4, h5⟩ := pick_at hC k2 (q.1, e) h3
        have := hD.1 k i q (q.1, e) h2 h5 rfl
        subst this
        exact h1 (List.mem_of_getElem? h4)
      · omega
  · obtain ⟨x0, h1, h2⟩ := same i x hi
    obtain ⟨y0, h3, h4⟩ := same j y hj
    exact hD.1 i j x0 y0 h1 h3 (h2.trans (hxy.trans h4.symm))
  · obtain ⟨q0, h1, h2⟩ := same k q h
    rw [← h2]
    exact hD.2 k q0 h1
/-! ===== contracts ===== -/
abbrev TYL (cA : Nat → ClassId) : List (ClassId × FieldType) := [(cA 0, .byte), (cA 1, .int), (cA 2, .long), (cA 3, .boolean), (cA 4, .object "OrphanWave$Findings"), (cA 5, .array .int)]
def nwl : List Cond := [Cond.fieldLinkNest RX1 24 "OrphanWave$Text" "length" "I" "OrphanWave", Cond.fieldLinkNest RX11 88 "OrphanWave$Text" "length" "I" "OrphanWave", Cond.fieldLinkNest RX4 42 "OrphanWave$Text" "length" "I" "OrphanWave", Cond.fieldLinkNest RX11 110 "OrphanWave$Ocean" "depths" "[I" "OrphanWave", Cond.fieldLinkNest RX11 114 "OrphanWave$Ocean" "pace" "I" "OrphanWave", Cond.fieldLinkNest RX11 117 "OrphanWave$Ocean" "fade" "I" "OrphanWave", Cond.fieldLinkNest RX11 216 "OrphanWave$Trees" "woodCounts" "[I" "OrphanWave", Cond.fieldLinkNest RX11 241 "OrphanWave$Trees" "ends" "[I" "OrphanWave", Cond.fieldLinkNest RX11 204 "OrphanWave$Trees" "livingCount" "I" "OrphanWave", Cond.fieldLinkNest RX5 30 "OrphanWave$Books" "cells" "[I" "OrphanWave", Cond.fieldLinkNest RX5 40 "OrphanWave$Books" "froms" "[I" "OrphanWave", Cond.fieldLinkNest RX5 49 "OrphanWave$Books" "tos" "[I" "OrphanWave", Cond.fieldLinkNest RX5 81 "OrphanWave$Books" "lows" "[I" "OrphanWave", Cond.fieldLinkNest RX5 84 "OrphanWave$Books" "highs" "[I" "OrphanWave", Cond.fieldLinkNest RX5 24 "OrphanWave$Books" "count" "I" "OrphanWave", Cond.fieldLinkNest RX7 44 "OrphanWave$Books" "count" "I" "OrphanWave", Cond.fieldLinkNest RX11 141 "OrphanWave$Books" "count" "I" "OrphanWave", Cond.fieldLinkNest RX7 23 "OrphanWave$Sheets" "marshes" "[I" "OrphanWave", Cond.fieldLinkNest RX7 77 "OrphanWave$Sheets" "olds" "[I" "OrphanWave", Cond.fieldLinkNest RX7 74 "OrphanWave$Sheets" "youngs" "[I" "OrphanWave", Cond.fieldLinkNest RX11 254 "OrphanWave$Sheets" "count" "I" "OrphanWave", Cond.fieldLinkNest RX11 299 "OrphanWave$KnownSlips" "count" "I" "OrphanWave", Cond.fieldLinkNest RX11 43 "OrphanWave$Findings" "books" "LOrphanWave$Books;" "OrphanWave", Cond.fieldLinkNest RX7 40 "OrphanWave$Findings" "books" "LOrphanWave$Books;" "OrphanWave", Cond.fieldLinkNest RX7 17 "OrphanWave$Findings" "sheets" "LOrphanWave$Sheets;" "OrphanWave", Cond.fieldLinkNest RX11 250 "OrphanWave$Findings" "sheets" "LOrphanWave$Sheets;" "OrphanWave", Cond.fieldLinkNest RX11 290 "OrphanWave$Findings" "known" "LOrphanWave$KnownSlips;" "OrphanWave", Cond.fieldLinkNest RX8 34 "OrphanWave$Findings" "weights" "[J" "OrphanWave", Cond.fieldLinkNest RX11 313 "OrphanWave$Findings" "weights" "[J" "OrphanWave", Cond.fieldLinkNest RX8 45 "OrphanWave$Findings" "dugMarshes" "I" "OrphanWave", Cond.fieldLinkNest RX11 369 "OrphanWave$Findings" "kept" "Z" "OrphanWave", Cond.fieldLinkNest RX11 317 "OrphanWave$Stories" "chances" "[[I" "OrphanWave", Cond.fieldLinkNest RX11 373 "OrphanWave$Signs" "trace" "J" "OrphanWave", Cond.fieldLinkNest RX11 180 "OrphanWave$Calendar" "years" "I" "OrphanWave", Cond.methodLinkNest RX11 11 yX9_init "OrphanWave", Cond.methodLinkNest RX11 18 yX4_init "OrphanWave", Cond.methodLinkNest RX11 25 yX10_init "OrphanWave", Cond.methodLinkNest RX11 32 yX2_init "OrphanWave", Cond.methodLinkNest RX2 11 yX0_init "OrphanWave", Cond.methodLinkNest RX2 20 yX6_init "OrphanWave", Cond.methodLinkNest RX2 27 yX3_init "OrphanWave", Cond.methodLinkNest RX11 72 yX1_init "OrphanWave", Cond.methodLinkNest RX4 28 yX11_isCell "OrphanWave", Cond.methodLinkNest RX1 57 yX11_within "OrphanWave", Cond.methodLinkNest RX10 33 yX11_within "OrphanWave", Cond.methodLinkNest RX6 40 yX11_within "OrphanWave", Cond.methodLinkNest RX3 30 yX11_commonPart "OrphanWave", Cond.methodLinkNest RX8 28 yX11_commonPart "OrphanWave"]
theorem nw_X1_24 : Cond.fieldLinkNest RX1 24 "OrphanWave$Text" "length" "I" "OrphanWave" ∈ nwl := List.mem_of_getElem? (i := 0) rfl
theorem nw_X11_88 : Cond.fieldLinkNest RX11 88 "OrphanWave$Text" "length" "I" "OrphanWave" ∈ nwl := List.mem_of_getElem? (i := 1) rfl
theorem nw_X4_42 : Cond.fieldLinkNest RX4 42 "OrphanWave$Text" "length" "I" "OrphanWave" ∈ nwl := List.mem_of_getElem? (i := 2) rfl
theorem nw_X11_110 : Cond.fieldLinkNest RX11 110 "OrphanWave$Ocean" "depths" "[I" "OrphanWave" ∈ nwl := List.mem_of_getElem? (i := 3) rfl
theorem nw_X11_114 : Cond.fieldLinkNest RX11 114 "OrphanWave$Ocean" "pace" "I" "OrphanWave" ∈ nwl := List.mem_of_getElem? (i := 4) rfl
theorem nw_X11_117 : Cond.fieldLinkNest RX11 117 "OrphanWave$Ocean" "fade" "I" "OrphanWave" ∈ nwl := List.mem_of_getElem? (i := 5) rfl
theorem nw_X11_216 : Cond.fieldLinkNest RX11 216 "OrphanWave$Trees" "woodCounts" "[I" "OrphanWave" ∈ nwl := List.mem_of_getElem? (i := 6) rfl
theorem nw_X11_241 : Cond.fieldLinkNest RX11 241 "OrphanWave$Trees" "ends" "[I" "OrphanWave" ∈ nwl := List.mem_of_getElem? (i := 7) rfl
theorem nw_X11_204 : Cond.fieldLinkNest RX11 204 "OrphanWave$Trees" "livingCount" "I" "OrphanWave" ∈ nwl := List.mem_of_getElem? (i := 8) rfl
theorem nw_X5_30 : Cond.fieldLinkNest RX5 30 "OrphanWave$Books" "cells" "[I" "OrphanWave" ∈ nwl := List.mem_of_getElem? (i := 9) rfl
theorem nw_X5_40 : Cond.fieldLinkNest RX5 40 "OrphanWave$Books" "froms" "[I" "OrphanWave" ∈ nwl := List.mem_of_getElem? (i := 10) rfl
theorem nw_X5_49 : Cond.fieldLinkNest RX5 49 "OrphanWave$Books" "tos" "[I" "OrphanWave" ∈ nwl := List.mem_of_getElem? (i := 11) rfl
theorem nw_X5_81 : Cond.fieldLinkNest RX5 81 "OrphanWave$Books" "lows" "[I" "OrphanWave" ∈ nwl := List.mem_of_getElem? (i := 12) rfl
theorem nw_X5_84 : Cond.fieldLinkNest RX5 84 "OrphanWave$Books" "highs" "[I" "OrphanWave" ∈ nwl := List.mem_of_getElem? (i := 13) rfl
theorem nw_X5_24 : Cond.fieldLinkNest RX5 24 "OrphanWave$Books" "count" "I" "OrphanWave" ∈ nwl := List.mem_of_getElem? (i := 14) rfl
theorem nw_X7_44 : Cond.fieldLinkNest RX7 44 "OrphanWave$Books" "count" "I" "OrphanWave" ∈ nwl := List.mem_of_getElem? (i := 15) rfl
theorem nw_X11_141 : Cond.fieldLinkNest RX11 141 "OrphanWave$Books" "count" "I" "OrphanWave" ∈ nwl := List.mem_of_getElem? (i := 16) rfl
theorem nw_X7_23 : Cond.fieldLinkNest RX7 23 "OrphanWave$Sheets" "marshes" "[I" "OrphanWave" ∈ nwl := List.mem_of_getElem? (i := 17) rfl
theorem nw_X7_77 : Cond.fieldLinkNest RX7 77 "OrphanWave$Sheets" "olds" "[I" "OrphanWave" ∈ nwl := List.mem_of_getElem? (i := 18) rfl
theorem nw_X7_74 : Cond.fieldLinkNest RX7 74 "OrphanWave$Sheets" "youngs" "[I" "OrphanWave" ∈ nwl := List.mem_of_getElem? (i := 19) rfl
theorem nw_X11_254 : Cond.fieldLinkNest RX11 254 "OrphanWave$Sheets" "count" "I" "OrphanWave" ∈ nwl := List.mem_of_getElem? (i := 20) rfl
theorem nw_X11_299 : Cond.fieldLinkNest RX11 299 "OrphanWave$KnownSlips" "count" "I" "OrphanWave" ∈ nwl := List.mem_of_getElem? (i := 21) rfl
theorem nw_X11_43 : Cond.fieldLinkNest RX11 43 "OrphanWave$Findings" "books" "LOrphanWave$Books;" "OrphanWave" ∈ nwl := List.mem_of_getElem? (i := 22) rfl
theorem nw_X7_40 : Cond.fieldLinkNest RX7 40 "OrphanWave$Findings" "books" "LOrphanWave$Books;" "OrphanWave" ∈ nwl := List.mem_of_getElem? (i := 23) rfl
theorem nw_X7_17 : Cond.fieldLinkNest RX7 17 "OrphanWave$Findings" "sheets" "LOrphanWave$Sheets;" "OrphanWave" ∈ nwl := List.mem_of_getElem? (i := 24) rfl
theorem nw_X11_250 : Cond.fieldLinkNest RX11 250 "OrphanWave$Findings" "sheets" "LOrphanWave$Sheets;" "OrphanWave" ∈ nwl := List.mem_of_getElem? (i := 25) rfl
theorem nw_X11_290 : Cond.fieldLinkNest RX11 290 "OrphanWave$Findings" "known" "LOrphanWave$KnownSlips;" "OrphanWave" ∈ nwl := List.mem_of_getElem? (i := 26) rfl
theorem nw_X8_34 : Cond.fieldLinkNest RX8 34 "OrphanWave$Findings" "weights" "[J" "OrphanWave" ∈ nwl := List.mem_of_getElem? (i := 27) rfl
theorem nw_X11_313 : Cond.fieldLinkNest RX11 313 "OrphanWave$Findings" "weights" "[J" "OrphanWave" ∈ nwl := List.mem_of_getElem? (i := 28) rfl
theorem nw_X8_45 : Cond.fieldLinkNest RX8 45 "OrphanWave$Findings" "dugMarshes" "I" "OrphanWave" ∈ nwl := List.mem_of_getElem? (i := 29) rfl
theorem nw_X11_369 : Cond.fieldLinkNest RX11 369 "OrphanWave$Findings" "kept" "Z" "OrphanWave" ∈ nwl := List.mem_of_getElem? (i := 30) rfl
theorem nw_X11_317 : Cond.fieldLinkNest RX11 317 "OrphanWave$Stories" "chances" "[[I" "OrphanWave" ∈ nwl := List.mem_of_getElem? (i := 31) rfl
theorem nw_X11_373 : Cond.fieldLinkNest RX11 373 "OrphanWave$Signs" "trace" "J" "OrphanWave" ∈ nwl := List.mem_of_getElem? (i := 32) rfl
theorem nw_X11_180 : Cond.fieldLinkNest RX11 180 "OrphanWave$Calendar" "years" "I" "OrphanWave" ∈ nwl := List.mem_of_getElem? (i := 33) rfl
theorem nw_X11_11 : Cond.methodLinkNest RX11 11 yX9_init "OrphanWave" ∈ nwl := List.mem_of_getElem? (i := 34) rfl
theorem nw_X11_18 : Cond.methodLinkNest RX11 18 yX4_init "OrphanWave" ∈ nwl := List.mem_of_getElem? (i := 35) rfl
theorem nw_X11_25 : Cond.methodLinkNest RX11 25 yX10_init "OrphanWave" ∈ nwl := List.mem_of_getElem? (i := 36) rfl
theorem nw_X11_32 : Cond.methodLinkNest RX11 32 yX2_init "OrphanWave" ∈ nwl := List.mem_of_getElem? (i := 37) rfl
theorem nw_X2_11 : Cond.methodLinkNest RX2 11 yX0_init "OrphanWave" ∈ nwl := List.mem_of_getElem? (i := 38) rfl
theorem nw_X2_20 : Cond.methodLinkNest RX2 20 yX6_init "OrphanWave" ∈ nwl := List.mem_of_getElem? (i := 39) rfl
theorem nw_X2_27 : Cond.methodLinkNest RX2 27 yX3_init "OrphanWave" ∈ nwl := List.mem_of_getElem? (i := 40) rfl
theorem nw_X11_72 : Cond.methodLinkNest RX11 72 yX1_init "OrphanWave" ∈ nwl := List.mem_of_getElem? (i := 41) rfl
theorem nw_X4_28 : Cond.methodLinkNest RX4 28 yX11_isCell "OrphanWave" ∈ nwl := List.mem_of_getElem? (i := 42) rfl
theorem nw_X1_57 : Cond.methodLinkNest RX1 57 yX11_within "OrphanWave" ∈ nwl := List.mem_of_getElem? (i := 43) rfl
theorem nw_X10_33 : Cond.methodLinkNest RX10 33 yX11_within "OrphanWave" ∈ nwl := List.mem_of_getElem? (i := 44) rfl
theorem nw_X6_40 : Cond.methodLinkNest RX6 40 yX11_within "OrphanWave" ∈ nwl := List.mem_of_getElem? (i := 45) rfl
theorem nw_X3_30 : Cond.methodLinkNest RX3 30 yX11_commonPart "OrphanWave" ∈ nwl := List.mem_of_getElem? (i := 46) rfl
theorem nw_X8_28 : Cond.methodLinkNest RX8 28 yX11_commonPart "OrphanWave" ∈ nwl := List.mem_of_getElem? (i := 47) rfl
/-- two places of an array of objects -/
def vi2 (a b : Nat) : Nat → Option Nat := fun i => if i = 0 then some a else if i = 1 then some b else none
abbrev pin (i : Int32) (n : Nat) : Prop := ¬ (i < 0 ∨ n ≤ i.toNatClampNeg)
def nestW (w : Cond) : Bool := match w with
  | .fieldLinkNest .. => true
  | .methodLinkNest .. => true
  | _ => false
theorem nwl_nest : nwl.all nestW = true := by decide +kernel
theorem nestW_warm {w : Cond} (h : nestW w = true) {s U : State} (hW : s.WarmedH U.vm) (hZ : va_Nw w s) : va_Nw w U := by
  cases w <;> first | exact va_Nw.warmF hW hZ | exact va_Nw.warmM hW hZ | cases h
theorem nestW_same {w : Cond} (h : nestW w = true) {s U : State} (hv : s.vm = U.vm) (hZ : va_Nw w s) : va_Nw w U := by
  cases w <;> first | exact va_Nw.same rfl hv hZ | cases h
def CX (D : va_G) (cA : Nat → ClassId) (U : State) : Prop := va_K D vwCl (TYL cA) U ∧ ∀ w ∈ nwl, va_Nw w U
theorem CX.warm {D : va_G} {cA : Nat → ClassId} {s U : State} (h : CX D cA s) (hW : s.WarmedH U.vm) : CX D cA U := ⟨va_K.moved hW.alike h.1, fun w hw => nestW_warm (List.all_eq_true.mp nwl_nest w hw) hW (h.2 w hw)⟩
theorem CX.same {D : va_G} {cA : Nat → ClassId} {s U : State} (h : CX D cA s) (hv : s.vm = U.vm) : CX D cA U := ⟨va_K.moved (by rw [hv]; exact Vm.Alike.refl U.vm) h.1, fun w hw => nestW_same (List.all_eq_true.mp nwl_nest w hw) hv (h.2 w hw)⟩
def CP (D : va_G) (cA : Nat → ClassId) (av : List Value) (sz : Nat) (W0 : va_W) : Array Value → State → Prop := fun v U => v = av.toArray ∧ U.heap.size = sz ∧ va_P D vwCl W0 U.heap ∧ CX D cA U ∧ va_D (fun _ => True) W0
def CQ (D : va_G) (r : Option Value) (W1 : va_W) (A : Nat → Prop) : Array Value → State → Outcome → State → Prop := fun _ st oc t => oc = .returned r ∧ va_P D vwCl W1 t.heap ∧ va_F A st t
/-- the contract: with the cells W0 and these arguments the method returns r, and the cells are W1 -/
def CT (l : Launch) (y : MethodName) (ws : List Cond) (rm : Room) (D : va_G) (cA : Nat → ClassId) (av : List Value) (W0 W1 : va_W) (r : Option Value) : Prop := ∀ sz : Nat, Met l y ws rm (CP D cA av sz W0) (CQ D r W1 (va_A W0 sz)) 0 0 (va_A W0 sz)
theorem CP.blind {D : va_G} {cA : Nat → ClassId} {av : List Value} {sz : Nat} {W0 : va_W} : FrameBlind (CP D cA av sz W0) := fun a U g mk q => ⟨q.1, q.2.1, q.2.2.1, q.2.2.2.1.same (U := U.calling g mk a) rfl, q.2.2.2.2⟩
/-- what holds in a method's body -/
def MX (p : Program) (s : State) (m : MethodId) (args : Array Value) (meth : Method) (c : Code) (cc : ByteArray) (nL : Nat) (Ts : List Cond) (own : String) (ret : Option FieldType) (D : va_G) (cA : Nat → ClassId) : Prop :=
  p.tables.exec = Jvm.exec ∧ c.code = cc ∧ c.maxLocals = nL ∧ s.vm.findClass own = some m.cls ∧ (∀ w ∈ Ts, w.before args s = true) ∧ meth.sig.returnType = ret ∧ meth.locks = false ∧ CX D cA s
theorem CT.ofW {l : Launch} {y : MethodName} {ws ws' : List Cond} {rm : Room} {D : va_G} {cA : Nat → ClassId} {av : List Value} {W0 W1 : va_W} {r : Option Value} {cc : ByteArray} {maxL : Nat} {ret : Option FieldType} (hy : plainName y.cls = true) (hw : ws = Cond.code y cc maxL ret :: ws') (hfit : (lg_sl av).length ≤ maxL)
    (body : ∀ (p : Program) (e : Env) (s : State) (m : MethodId) (below : List Frame) (meth : Method) (c : Code) (A : Nat → Prop), MX p s m av.toArray meth c cc maxL ws y.cls ret D cA → (∀ q, s.heap.size ≤ q → A q) → va_P D vwCl W0 s.heap → va_D A W0 → ∀ ls : Array Slot, lv_has ls maxL (lv_args 0 av) →
      W p l e rm s m av.toArray below meth c s.heap [] 0 0 (MQ below (CQ D r W1 A) av.toArray s 0 0 A) (F0 m 0 ls [])) : CT l y ws rm D cA av W0 W1 r := by
  intro sz
  refine Met.ofW (cc := cc) (maxL := maxL) (ret := ret) hy hw ?_
  intro p e s m args below meth c s₁ B hml hv
  obtain ⟨rfl, hsz, hP, hX, hD0⟩ := hv
  subst hsz
  rw [lg_entry_eq]
  exact body p e s m below meth c (va_A W0 s.heap.size) ⟨B.exec, B.bytes, hml, findClass_of_methodNamed B.named, atoms_spec (ws := ws) B.pre, B.returns, B.notSynchronized, hX⟩ (fun q h => Or.inr h) hP (hD0.self (sz := s.heap.size)) _ (lv_entry av hfit)
section MCALL
variable {p : Program} {l : Launch} {e : Env} {R : Room} {s : State} {m : MethodId} {args : Array Value} {below : List Frame} {meth : Method} {c : Code} {H : Heap} {locs : List Loc} {cells slots : Nat} {Q : State → Prop}
variable {y : MethodName} {bytes cc : ByteArray} {maxL nL n index pc : Nat} {ret : Option FieldType} {ws Ts : List Cond} {rm : Room} {own C host : String} {b : Addr} {As rest st st' : List Value} {ls : Array Slot} {D : va_G} {cA : Nat → ClassId} {A : Nat → Prop} {H0 : Heap} {WS W0 W1 WS' : va_W} {r : Option Value}
theorem m_fin {av : List Value} (hrun : va_Run p l e R s m args below meth c H locs cells slots 0 0 (F0 m pc ls st) rest (CQ D r W1 (va_A W0 H.size) av.toArray) (va_A W0 H.size))
    (hP : va_P D vwCl WS H) (hD : va_D A WS) (hS : va_S A H0 H locs) (hA : ∀ q, H0.size ≤ q → A q) (is : List Nat) (hC : is.map (fun i => WS[i]?) = W0.map some) (hadd : W1.map (fun q => q.1) = W0.map (fun q => q.1)) (hW : wput WS (is.zip W1) = WS') (hst' : r.toList ++ rest = st')
    (kk : ∀ (H1 : Heap) (locs1 : List Loc), va_P D vwCl WS' H1 → va_D A WS' → va_S A H0 H1 locs1 → W p l e R s m args below meth c H1 locs1 cells slots Q (F0 m (pc + 3) ls st')) : W p l e R s m args below meth c H locs cells slots Q (F0 m pc ls st) := by
  subst hst'
  intro T hT X
  obtain ⟨v, st₀, t, T', L, h0, X', hL, e1, e2, ⟨hv, hP1, hz, hk⟩, st9⟩ := hrun T hT X
  cases hv
  rw [h0] at hz hk
  rw [← e1] at hP1 hz
  have hF := va_free (wc := W0) hD hS hA is hC
  have hk2 : ∀ q : Nat, q < H.size → ¬ va_A W0 H.size q → T'.heap[q]? = H[q]? := fun q h1 h2 => by rw [e1]; exact hk q h1 h2
  obtain ⟨hP2, hD2⟩ := wput_PD hP hD is hC hadd hW hk2 hP1
  obtain ⟨t2, a1, b1⟩ := kk T'.heap (locs ++ L) hP2 hD2 ⟨Nat.le_trans hS.1 hz, fun q h1 h2 => by rw [hk2 q (Nat.lt_of_lt_of_le h1 hS.1) (fun z => h2 (hF q z))]; exact hS.2.1 q h1 h2, fun q hq => by
      rcases List.mem_append.mp hq with h | h
      · exact hS.2.2 q h
      · exact hF _ (hL q h)⟩ T' rfl X'
  exact ⟨t2, st9 t2 a1, b1⟩
theorem m_pre {av : List Value} (hX : CX D cA s) (hP : va_P D vwCl WS H) (hD : va_D A WS) (is : List Nat) (hnd : va_nd is = true) (hC : is.map (fun i => WS[i]?) = W0.map some) : ∀ U : State, U.heap = H → s.WarmedH U.vm → CP D cA av H.size W0 av.toArray U := by
  intro U hU hW
  refine ⟨rfl, by rw [hU], ?_, hX.warm hW, (hD.sub is hnd hC).weaken (fun _ _ _ _ => trivial)⟩
  rw [hU]
  intro k q hq
  obtain ⟨i, -, h2⟩ := pick_at hC k q hq
  exact hP i q h2
theorem m_callV (S : CallFix p m c cc nL s args Ts own) (hX : CX D cA s) (hM : CT l y ws rm D cA (.ref b :: As) W0 W1 r) (cw : CallW R s args own C index y bytes maxL ret ws rm 0 0 n) (hP : va_P D vwCl WS H) (hD : va_D A WS) (hS : va_S A H0 H locs) (hA : ∀ q, H0.size ≤ q → A q)
    (is : List Nat) (hnd : va_nd is = true) (hC : is.map (fun i => WS[i]?) = W0.map some) (hadd : W1.map (fun q => q.1) = W0.map (fun q => q.1)) (hW : wput WS (is.zip W1) = WS') (q0 ci : Nat) {T : u_T} {N : Nat} {fs : List Value} (hci : vwCl[ci]? = some (C, T, N)) (hq0 : WS[q0]? = some (b, .inr (ci, fs)))
    (hn : As.length = n) (hsize : ls.size = nL) (hst : st = As.reverse ++ .ref b :: rest) (hst' : r.toList ++ rest = st') (hrest : (rest.map fun v => v.category).sum ≤ 8) (hf : cells ≤ R.cells ∧ slots ≤ R.slots) (hdg : decode cc pc = .ok (.invokevirtual index, 3))
    (kk : ∀ (H1 : Heap) (locs1 : List Loc), va_P D vwCl WS' H1 → va_D A WS' → va_S A H0 H1 locs1 → W p l e R s m args below meth c H1 locs1 cells slots Q (F0 m (pc + 3) ls st')) : W p l e R s m args below meth c H locs cells slots Q (F0 m pc ls st) :=
  m_fin (va_runV (b := b) (As := As) (rest := rest) S (hM H.size) cw ⟨CP.blind, va_recv (q := (C, T, N)) hX.1 hP hci hq0, m_pre hX hP hD is hnd hC⟩ rfl hn hsize hst (lv_room hrest) hdg hf) hP hD hS hA is hC hadd hW hst' kk
theorem m_callS (S : CallFix p m c cc nL s args Ts own) (hX : CX D cA s) (hM : CT l y ws rm D cA As W0 W1 r) (cw : CallB R s args own index y bytes maxL ret ws rm 0 0 n ∧ (Cond.static y).before args s = true) (hP : va_P D vwCl WS H) (hD : va_D A WS) (hS : va_S A H0 H locs) (hA : ∀ q, H0.size ≤ q → A q)
    (is : List Nat) (hnd : va_nd is = true) (hC : is.map (fun i => WS[i]?) = W0.map some) (hadd : W1.map (fun q => q.1) = W0.map (fun q => q.1)) (hW : wput WS (is.zip W1) = WS')
    (hn : As.length = n) (hsize : ls.size = nL) (hst : st = As.reverse ++ rest) (hst' : r.toList ++ rest = st') (hrest : (rest.map fun v => v.category).sum ≤ 8) (hf : cells ≤ R.cells ∧ slots ≤ R.slots) (hdg : decode cc pc = .ok (.invokestatic index, 3))
    (kk : ∀ (H1 : Heap) (locs1 : List Loc), va_P D vwCl WS' H1 → va_D A WS' → va_S A H0 H1 locs1 → W p l e R s m args below meth c H1 locs1 cells slots Q (F0 m (pc + 3) ls st')) : W p l e R s m args below meth c H locs cells slots Q (F0 m pc ls st) :=
  m_fin (va_runS (As := As) (rest := rest) S (hM H.size) cw ⟨CP.blind, m_pre hX hP hD is hnd hC⟩ rfl hn hsize hst (lv_room hrest) hdg hf) hP hD hS hA is hC hadd hW hst' kk
theorem m_callSN (S : CallFix p m c cc nL s args Ts own) (hX : CX D cA s) (hM : CT l y ws rm D cA As W0 W1 r) (cw : va_CN R s args own index y host bytes maxL ret ws rm 0 0 n ∧ (Cond.static y).before args s = true ∧ True) (hP : va_P D vwCl WS H) (hD : va_D A WS) (hS : va_S A H0 H locs) (hA : ∀ q, H0.size ≤ q → A q)
    (is : List Nat) (hnd : va_nd is = true) (hC : is.map (fun i => WS[i]?) = W0.map some) (hadd : W1.map (fun q => q.1) = W0.map (fun q => q.1)) (hW : wput WS (is.zip W1) = WS')
    (hn : As.length = n) (hsize : ls.size = nL) (hst : st = As.reverse ++ rest) (hst' : r.toList ++ rest = st') (hrest : (rest.map fun v => v.category).sum ≤ 8) (hf : cells ≤ R.cells ∧ slots ≤ R.slots) (hdg : decode cc pc = .ok (.invokestatic index, 3))
    (kk : ∀ (H1 : Heap) (locs1 : List Loc), va_P D vwCl WS' H1 → va_D A WS' → va_S A H0 H1 locs1 → W p l e R s m args below meth c H1 locs1 cells slots Q (F0 m (pc + 3) ls st')) : W p l e R s m args below meth c H locs cells slots Q (F0 m pc ls st) :=
  m_fin (va_runSN (As := As) (rest := rest) S (hM H.size) cw ⟨CP.blind, m_pre hX hP hD is hnd hC⟩ rfl hn hsize hst (lv_room hrest) hdg hf) hP hD hS hA is hC hadd hW hst' kk
theorem m_iret {v : Int32} (hx : p.tables.exec = Jvm.exec) (hb : c.code = cc) (hr : meth.sig.returnType = some .int) (hlocks : meth.locks = false) (hP : va_P D vwCl W1 H) (hS : va_S A s.heap H locs) (hdg : decode cc pc = .ok (.ireturn, 1)) : W p l e R s m args below meth c H locs 0 0 (MQ below (CQ D (some (.int v)) W1 A) args s 0 0 A) (F0 m pc ls [.int v]) :=
  W.iret hx hb hr (fun t ht _ => ⟨rfl, by rw [ht]; exact hP, hS.F ht⟩) hS.2.2 hdg hlocks
theorem m_zret {v : Int32} (hv : v = 0 ∨ v = 1) (hx : p.tables.exec = Jvm.exec) (hb : c.code = cc) (hr : meth.sig.returnType = some .boolean) (hlocks : meth.locks = false) (hP : va_P D vwCl W1 H) (hS : va_S A s.heap H locs) (hdg : decode cc pc = .ok (.ireturn, 1)) : W p l e R s m args below meth c H locs 0 0 (MQ below (CQ D (some (.int v)) W1 A) args s 0 0 A) (F0 m pc ls [.int v]) :=
  W.zret hx hb hr (by rcases hv with rfl | rfl <;> rfl) (fun t ht _ => ⟨rfl, by rw [ht]; exact hP, hS.F ht⟩) hS.2.2 hdg hlocks
theorem m_lret {v : Int64} (hx : p.tables.exec = Jvm.exec) (hb : c.code = cc) (hr : meth.sig.returnType = some .long) (hlocks : meth.locks = false) (hP : va_P D vwCl W1 H) (hS : va_S A s.heap H locs) (hdg : decode cc pc = .ok (.lreturn, 1)) : W p l e R s m args below meth c H locs 0 0 (MQ below (CQ D (some (.long v)) W1 A) args s 0 0 A) (F0 m pc ls [.long v]) :=
  W.lret hx hb hr (fun t ht _ => ⟨rfl, by rw [ht]; exact hP, hS.F ht⟩) hS.2.2 hdg hlocks
theorem m_vret (hx : p.tables.exec = Jvm.exec) (hb : c.code = cc) (hr : meth.sig.returnType = none) (hlocks : meth.locks = false) (hP : va_P D vwCl W1 H) (hS : va_S A s.heap H locs) (hdg : decode cc pc = .ok (.return_, 1)) : W p l e R s m args below meth c H locs 0 0 (MQ below (CQ D none W1 A) args s 0 0 A) (F0 m pc ls []) :=
  W.vret hx hb hr (fun t ht _ => ⟨rfl, by rw [ht]; exact hP, hS.F ht⟩) hS.2.2 hdg hlocks
/-! ===== arrays of arrays: the outer one a place, the rows at the world's end ===== -/
def gro (N : Nat) (r : Nat → Nat) : Nat → Option Nat := fun i => if i < N then some (r i) else none
def grw (N : Nat) (r : Nat → Nat) (k : ClassId) (K : Nat) (M : Nat → Nat → Int32) : va_W := (List.range N).map (fun i => (r i, .inl (k, K, .inl (M i))))
def up2 (M : Nat → Nat → Int32) (i j : Nat) (x : Int32) : Nat → Nat → Int32 := fun a => if a = i then upd (M i) j x else M a
theorem grw_get {X : va_W} {N : Nat} {r : Nat → Nat} {k : ClassId} {K : Nat} {M : Nat → Nat → Int32} {i : Nat} (h : i < N) : (X ++ grw N r k K M)[X.length + i]? = some (r i, .inl (k, K, .inl (M i))) := by
  rw [List.getElem?_append_right (by omega), Nat.add_sub_cancel_left]
  simp [grw, List.getElem?_map, h]
theorem grw_set {X : va_W} {N : Nat} {r : Nat → Nat} {k : ClassId} {K : Nat} {M : Nat → Nat → Int32} {i : Nat} (j : Nat) (x : Int32) (h : i < N) : (X ++ grw N r k K M).set (X.length + i) (r i, .inl (k, K, .inl (upd (M i) j x))) = X ++ grw N r k K (up2 M i j x) := by
  rw [List.set_append_right _ _ (by omega), Nat.add_sub_cancel_left]
  congr 1
  apply List.ext_getElem?
  intro a
  by_cases ha : a = i
  · subst ha
    rw [List.getElem?_set_self (by simp [grw, h])]
    simp [grw, List.getElem?_map, h, up2]
  · rw [List.getElem?_set_ne (Ne.symm ha)]
    simp only [grw, List.getElem?_map]
    by_cases h2 : a < N
    · rw [List.getElem?_range h2]
      simp [up2, ha]
    · rw [List.getElem?_eq_none (by rw [List.length_range]; omega)]
      rfl
def upR (M : Nat → Nat → Int32) (i : Nat) (g : Nat → Int32) : Nat → Nat → Int32 := fun a => if a = i then g else M a
theorem grw_setR {X : va_W} {N : Nat} {r : Nat → Nat} {k : ClassId} {K : Nat} {M : Nat → Nat → Int32} {i : Nat} (g : Nat → Int32) (h : i < N) : (X ++ grw N r k K M).set (X.length + i) (r i, .inl (k, K, .inl g)) = X ++ grw N r k K (upR M i g) := by
  rw [List.set_append_right _ _ (by omega), Nat.add_sub_cancel_left]
  congr 1
  apply List.ext_getElem?
  intro a
  by_cases ha : a = i
  · subst ha
    rw [List.getElem?_set_self (by simp [grw, h])]
    simp [grw, List.getElem?_map, h, upR]
  · rw [List.getElem?_set_ne (Ne.symm ha)]
    simp only [grw, List.getElem?_map]
    by_cases h2 : a < N
    · rw [List.getElem?_range h2]
      simp [upR, ha]
    · rw [List.getElem?_eq_none (by rw [List.length_range]; omega)]
      rfl
theorem pick3 {ws : va_W} {i j k : Nat} {a b d : Nat × va_E} (h1 : ws[i]? = some a) (h2 : ws[j]? = some b) (h3 : ws[k]? = some d) : [i, j, k].map (fun i => ws[i]?) = [a, b, d].map some := by simp [h1, h2, h3]
theorem set_same {ws : va_W} {i : Nat} {a : Nat × va_E} (h : ws[i]? = some a) : ws.set i a = ws := by
  apply List.ext_getElem?
  intro k
  by_cases e : k = i
  · subst e
    rw [List.getElem?_set_self (List.getElem?_eq_some_iff.mp h).1, h]
  · rw [List.getElem?_set_ne (Ne.symm e)]
theorem put3 {ws : va_W} {i j k : Nat} {a b d : Nat × va_E} (h1 : ws[i]? = some a) (h3 : ws[k]? = some d) (hij : i ≠ j) (hjk : j ≠ k) : wput ws ([i, j, k].zip [a, b, d]) = ws.set j b := by
  show ((ws.set i a).set j b).set k d = _
  rw [set_same h1]
  exact set_same (by rw [List.getElem?_set_ne hjk]; exact h3)
theorem m_aald {N : Nat} {rr : Nat → Nat} {a : Nat} {i : Int32} (hx : p.tables.exec = Jvm.exec) (hb : c.code = cc) (hK : va_K D vwCl (TYL cA) s) (hP : va_P D vwCl WS H) (q0 : Nat) (ha : WS[q0]? = some (a, .inl (cA 5, N, .inr (.inr (.inr (.inr (gro N rr))))))) (hin : vp_in i N) (hdg : decode cc pc = .ok (.aaload, 1))
    (kk : W p l e R s m args below meth c H locs cells slots Q (F0 m (pc + 1) ls (.ref (rr i.toNatClampNeg) :: rest))) : W p l e R s m args below meth c H locs cells slots Q (F0 m pc ls (.int i :: .ref a :: rest)) := by
  have hlt : i.toNatClampNeg < N := Nat.not_le.mp fun q => hin (Or.inr q)
  exact W.aald (v := .ref (rr i.toNatClampNeg)) (ty := .array .int) hx hb (hP q0 _ ha) ((hK.2 5 _ rfl).1 N (fun j => va_rf (gro N rr j))) rfl (fun q => by cases q) (by show ¬ (i < 0 ∨ (arrV _ _ _).slots.size ≤ _); rw [arrV_size]; exact hin) (by show (arrV _ _ _).slots[_]? = _; rw [arrV_read _ _ hlt]; simp [gro, hlt, va_rf]) rfl rfl hdg kk
theorem m_rald {X : va_W} {N : Nat} {rr : Nat → Nat} {K : Nat} {M : Nat → Nat → Int32} {i j : Int32} (hx : p.tables.exec = Jvm.exec) (hb : c.code = cc) (hK : va_K D vwCl (TYL cA) s) (hP : va_P D vwCl WS H) (hws : WS = X ++ grw N rr (cA 1) K M) (hi : vp_in i N) (hj : vp_in j K) (hdg : decode cc pc = .ok (.iaload, 1))
    (kk : W p l e R s m args below meth c H locs cells slots Q (F0 m (pc + 1) ls (.int (M i.toNatClampNeg j.toNatClampNeg) :: rest))) : W p l e R s m args below meth c H locs cells slots Q (F0 m pc ls (.int j :: .ref (rr i.toNatClampNeg) :: rest)) := by
  have hlt : i.toNatClampNeg < N := Nat.not_le.mp fun q => hi (Or.inr q)
  subst hws
  exact va_iald hx hb hK hP (X.length + i.toNatClampNeg) 1 (grw_get hlt) rfl hj hdg kk
theorem m_rast {X : va_W} {N : Nat} {rr : Nat → Nat} {K : Nat} {M : Nat → Nat → Int32} {i j x : Int32} (hx : p.tables.exec = Jvm.exec) (hb : c.code = cc) (hK : va_K D vwCl (TYL cA) s) (hP : va_P D vwCl WS H) (hD : va_D A WS) (hS : va_S A H0 H locs) (hws : WS = X ++ grw N rr (cA 1) K M) (hi : vp_in i N) (hj : vp_in j K) (hdg : decode cc pc = .ok (.iastore, 1))
    (kk : ∀ (H1 : Heap) (locs1 : List Loc), va_P D vwCl (X ++ grw N rr (cA 1) K (up2 M i.toNatClampNeg j.toNatClampNeg x)) H1 → va_D A (X ++ grw N rr (cA 1) K (up2 M i.toNatClampNeg j.toNatClampNeg x)) → va_S A H0 H1 locs1 → W p l e R s m args below meth c H1 locs1 cells slots Q (F0 m (pc + 1) ls rest)) : W p l e R s m args below meth c H locs cells slots Q (F0 m pc ls (.int x :: .int j :: .ref (rr i.toNatClampNeg) :: rest)) := by
  have hlt : i.toNatClampNeg < N := Nat.not_le.mp fun q => hi (Or.inr q)
  subst hws
  refine va_iast hx hb hK hP hD hS (X.length + i.toNatClampNeg) 1 (grw_get hlt) rfl hj hdg (fun H1 locs1 hP hD hS => ?_)
  rw [grw_set _ _ hlt] at hP hD
  exact kk H1 locs1 hP hD hS
end MCALL
