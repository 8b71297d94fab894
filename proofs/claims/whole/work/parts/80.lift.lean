/-! ===== contracts over larger worlds ===== -/
theorem app_get {X Y : va_W} {k : Nat} {q : Nat × va_E} (h : (X ++ Y)[k]? = some q) : (k < X.length ∧ X[k]? = some q) ∨ (X.length ≤ k ∧ Y[k - X.length]? = some q) := by
  by_cases e : k < X.length
  · rw [List.getElem?_append_left e] at h; exact Or.inl ⟨e, h⟩
  · rw [List.getElem?_append_right (by omega)] at h; exact Or.inr ⟨by omega, h⟩
theorem get_appR {X Y : va_W} {k : Nat} {q : Nat × va_E} (h : Y[k]? = some q) : (X ++ Y)[X.length + k]? = some q := by
  rw [List.getElem?_append_right (by omega), Nat.add_sub_cancel_left]
  exact h
theorem get_appL {X Y : va_W} {k : Nat} {q : Nat × va_E} (h : X[k]? = some q) : (X ++ Y)[k]? = some q := by
  rw [List.getElem?_append_left (List.getElem?_eq_some_iff.mp h).1]
  exact h
theorem addr_get {W0 W1 : va_W} (hadd : W1.map (fun q => q.1) = W0.map (fun q => q.1)) {k : Nat} {q : Nat × va_E} (h : W1[k]? = some q) : ∃ q0, W0[k]? = some q0 ∧ q0.1 = q.1 := by
  have e1 : (W1.map (fun q => q.1))[k]? = some q.1 := by rw [List.getElem?_map, h]; rfl
  rw [hadd, List.getElem?_map] at e1
  cases hw : W0[k]? with
  | none => rw [hw] at e1; cases e1
  | some q0 => rw [hw] at e1; exact ⟨q0, rfl, Option.some.inj e1⟩
theorem va_D.addr {A : Nat → Prop} {W0 W1 : va_W} (hadd : W1.map (fun q => q.1) = W0.map (fun q => q.1)) (h : va_D A W0) : va_D A W1 := by
  refine ⟨fun i j x y hi hj hxy => ?_, fun k q hk => ?_⟩
  · obtain ⟨x0, h1, h2⟩ := addr_get hadd hi
    obtain ⟨y0, h3, h4⟩ := addr_get hadd hj
    exact h.1 i j x0 y0 h1 h3 (h2.trans (hxy.trans h4.symm))
  · obtain ⟨q0, h1, h2⟩ := addr_get hadd hk
    rw [← h2]
    exact h.2 k q0 h1
section LIFT
variable {l : Launch} {y : MethodName} {ws : List Cond} {rm : Room} {D : va_G} {cA : Nat → ClassId} {av : List Value} {W0 W1 WS WS' WR X X' Y Y' : va_W} {r : Option Value}
theorem CT.lift (hM : CT l y ws rm D cA av W0 W1 r) (is isR : List Nat) (n9 : Nat) (hnd : va_nd is = true) (hC : is.map (fun i => WS[i]?) = W0.map some) (hadd : W1.map (fun q => q.1) = W0.map (fun q => q.1)) (hW1 : is.map (fun i => WS'[i]?) = W1.map some) (hW2 : isR.map (fun i => WS'[i]?) = WR.map some) (hW3 : isR.map (fun i => WS[i]?) = WR.map some) (hlen : WS'.length = n9) (hcov : (List.range n9).all (fun k => is.contains k || isR.contains k) = true) (hdis : isR.all (fun k => !is.contains k) = true) : CT l y ws rm D cA av WS WS' r := by
  intro sz
  have hin : ∀ q, va_A W0 sz q → va_A WS sz q := fun q h => by
    rcases h with ⟨k, e, h⟩ | h
    · obtain ⟨i, -, h2⟩ := pick_at hC k (q, e) h
      exact Or.inl ⟨i, e, h2⟩
    · exact Or.inr h
  refine MetFree.mono (hM sz) (fun a s h => ?_) (fun _ _ _ _ _ h => h) (fun a s o t hp h => ?_)
  · obtain ⟨h1, h2, h3, h4, h5⟩ := h
    refine ⟨h1, h2, fun k q hq => ?_, h4, h5.sub is hnd hC⟩
    obtain ⟨i, -, h6⟩ := pick_at hC k q hq
    exact h3 i q h6
  · obtain ⟨⟨h1, h2, h3⟩, L, h4, h5⟩ := h
    obtain ⟨p1, p2, p3, p4, p5⟩ := hp
    subst p2
    obtain ⟨hP2, -⟩ := back_PD p3 p5 is isR n9 hC hadd hW1 hW2 hW3 hlen hcov hdis h3.2 h2
    exact ⟨⟨h1, hP2, h3.1, fun q hq hn => h3.2 q hq (fun z => hn (hin q z))⟩, L, h4, fun q hq => hin _ (h5 q hq)⟩
theorem CT.left (hM : CT l y ws rm D cA av X X' r) : CT l y ws rm D cA av (X ++ Y) (X' ++ Y) r := by
  intro sz
  have hin : ∀ q, va_A X sz q → va_A (X ++ Y) sz q := fun q h => by
    rcases h with ⟨k, e, h⟩ | h
    · exact Or.inl ⟨k, e, get_appL h⟩
    · exact Or.inr h
  refine MetFree.mono (hM sz) (fun a s h => ?_) (fun _ _ _ _ _ h => h) (fun a s o t hp h => ?_)
  · obtain ⟨h1, h2, h3, h4, h5⟩ := h
    exact ⟨h1, h2, fun k q hq => h3 k q (get_appL hq), h4, fun i j x z hi hj => h5.1 i j x z (get_appL hi) (get_appL hj), fun _ _ _ => trivial⟩
  · obtain ⟨⟨h1, h2, h3⟩, L, h4, h5⟩ := h
    obtain ⟨p1, p2, p3, p4, p5⟩ := hp
    subst p2
    refine ⟨⟨h1, h2.app (fun k q hk => ?_), h3.1, fun q hq hn => h3.2 q hq (fun z => hn (hin q z))⟩, L, h4, fun q hq => hin _ (h5 q hq)⟩
    have hY := p3 _ q (get_appR (X := X) hk)
    refine hY.kept (h3.2 q.1 hY.lt ?_)
    rintro (⟨k2, e, h6⟩ | h6)
    · have e1 := p5.1 _ _ q (q.1, e) (get_appR (X := X) hk) (get_appL (Y := Y) h6) rfl
      have := (List.getElem?_eq_some_iff.mp h6).1
      omega
    · have := hY.lt
      omega
theorem CT.right (hM : CT l y ws rm D cA av Y Y' r) : CT l y ws rm D cA av (X ++ Y) (X ++ Y') r := by
  intro sz
  have hin : ∀ q, va_A Y sz q → va_A (X ++ Y) sz q := fun q h => by
    rcases h with ⟨k, e, h⟩ | h
    · exact Or.inl ⟨_, e, get_appR h⟩
    · exact Or.inr h
  refine MetFree.mono (hM sz) (fun a s h => ?_) (fun _ _ _ _ _ h => h) (fun a s o t hp h => ?_)
  · obtain ⟨h1, h2, h3, h4, h5⟩ := h
    exact ⟨h1, h2, fun k q hq => h3 _ q (get_appR hq), h4, fun i j x z hi hj hxz => by have := h5.1 _ _ x z (get_appR (X := X) hi) (get_appR (X := X) hj) hxz; omega, fun _ _ _ => trivial⟩
  · obtain ⟨⟨h1, h2, h3⟩, L, h4, h5⟩ := h
    obtain ⟨p1, p2, p3, p4, p5⟩ := hp
    subst p2
    refine ⟨⟨h1, va_P.app (fun k q hk => ?_) h2, h3.1, fun q hq hn => h3.2 q hq (fun z => hn (hin q z))⟩, L, h4, fun q hq => hin _ (h5 q hq)⟩
    have hX := p3 _ q (get_appL (Y := Y) hk)
    refine hX.kept (h3.2 q.1 hX.lt ?_)
    rintro (⟨k2, e, h6⟩ | h6)
    · have e1 := p5.1 _ _ q (q.1, e) (get_appL (Y := Y) hk) (get_appR (X := X) h6) rfl
      have := (List.getElem?_eq_some_iff.mp hk).1
      omega
    · have := hX.lt
      omega
end LIFT
section LCALL
variable {p : Program} {l : Launch} {e : Env} {R : Room} {s : State} {m : MethodId} {args : Array Value} {below : List Frame} {meth : Method} {c : Code} {H : Heap} {locs : List Loc} {cells slots : Nat} {Q : State → Prop}
variable {y : MethodName} {bytes cc : ByteArray} {maxL nL n index pc : Nat} {ret : Option FieldType} {ws Ts : List Cond} {rm : Room} {own C host : String} {b : Addr} {As rest st st' : List Value} {ls : Array Slot} {D : va_G} {cA : Nat → ClassId} {A : Nat → Prop} {H0 : Heap} {WS WS' : va_W} {r : Option Value}
/-- a call of the law: the whole world goes in, the whole world comes back -/
theorem law_callV (S : CallFix p m c cc nL s args Ts own) (hX : CX D cA s) (hM : CT l y ws rm D cA (.ref b :: As) WS WS' r) (cw : CallW R s args own C index y bytes maxL ret ws rm 0 0 n) (hP : va_P D vwCl WS H) (hD : va_D A WS) (hS : va_S A H0 H locs) (hA : ∀ q, H0.size ≤ q → A q) (hadd : WS'.map (fun q => q.1) = WS.map (fun q => q.1)) (q0 ci : Nat) {T : u_T} {N : Nat} {fs : List Value} (hci : vwCl[ci]? = some (C, T, N)) (hq0 : WS[q0]? = some (b, .inr (ci, fs)))
    (hn : As.length = n) (hsize : ls.size = nL) (hst : st = As.reverse ++ .ref b :: rest) (hst' : r.toList ++ rest = st') (hrest : (rest.map fun v => v.category).sum ≤ 8) (hf : cells ≤ R.cells ∧ slots ≤ R.slots) (hdg : decode cc pc = .ok (.invokevirtual index, 3))
    (kk : ∀ (H1 : Heap) (locs1 : List Loc), va_P D vwCl WS' H1 → va_D A WS' → va_S A H0 H1 locs1 → W p l e R s m args below meth c H1 locs1 cells slots Q (F0 m (pc + 3) ls st')) : W p l e R s m args below meth c H locs cells slots Q (F0 m pc ls st) := by
  have hrun := va_runV (H := H) (locs := locs) (cells := cells) (slots := slots) (l := l) (e := e) (below := below) (meth := meth) (g := F0 m pc ls st) (b := b) (As := As) (rest := rest) S (hM H.size) cw ⟨CP.blind, va_recv (q := (C, T, N)) hX.1 hP hci hq0, fun U hU hW => ⟨rfl, by rw [hU], by rw [hU]; exact hP, hX.warm hW, hD.weaken (fun _ _ _ _ => trivial)⟩⟩ rfl hn hsize hst (lv_room hrest) hdg hf
  subst hst'
  intro T1 hT Xs
  obtain ⟨v, st₀, t, T', L, h0, X', hL, e1, e2, ⟨hv, hP1, hz, hk⟩, st9⟩ := hrun T1 hT Xs
  cases hv
  rw [h0] at hz hk
  rw [← e1] at hP1 hz
  have hF : ∀ q, va_A WS H.size q → A q := fun q h => by
    rcases h with ⟨k, e, h⟩ | h
    · exact hD.2 k (q, e) h
    · exact hA q (Nat.le_trans hS.1 h)
  have hk2 : ∀ q : Nat, q < H.size → ¬ va_A WS H.size q → T'.heap[q]? = H[q]? := fun q h1 h2 => by rw [e1]; exact hk q h1 h2
  obtain ⟨t2, a1, b1⟩ := kk T'.heap (locs ++ L) hP1 (va_D.addr hadd hD) ⟨Nat.le_trans hS.1 hz, fun q h1 h2 => by rw [hk2 q (Nat.lt_of_lt_of_le h1 hS.1) (fun z => h2 (hF q z))]; exact hS.2.1 q h1 h2, fun q hq => by
      rcases List.mem_append.mp hq with h | h
      · exact hS.2.2 q h
      · exact hF _ (hL q h)⟩ T' rfl X'
  exact ⟨t2, st9 t2 a1, b1⟩
end LCALL
