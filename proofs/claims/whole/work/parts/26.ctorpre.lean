/-! ===== constructors: fresh cells ===== -/
theorem va_AOA.moved {ty : FieldType} {u U : State} (hvm : u.vm.Alike U.vm) (h : va_AOA ty u) : va_AOA ty U := by
  obtain ⟨comp, c, k, h1, h2, h3, h4, h5⟩ := arrayOverA_spec h
  obtain ⟨k', hk', he⟩ := hvm.2.2 _ _ h3
  have hi : (U.vm.classes.findIdx? fun (x : Class) => match x.kind with | .array component _ => component == comp | _ => false) = some c := by
    have e1 := va_idx_bare u.vm comp
    have e2 := va_idx_bare U.vm comp
    have e3 : u.vm.bare = U.vm.bare := by first | exact hvm.bare_eq | exact hvm.bare_eq.symm
    rw [← e3] at e2
    exact e2.symm.trans (e1.trans h2)
  have hkind : k'.kind = .array comp (.array ty) := by rw [he]; exact h4
  have f1 : U.vm.findClass (FieldType.array ty).toString = some comp := by rw [hvm.findClass]; exact h1
  have f2 : U.vm.findClass ("[" ++ (FieldType.array ty).toString) = some c := by rw [hvm.findClass]; exact h5
  unfold va_AOA Cond.before Cond.holds
  simp only [Cond.value]
  rw [f1, Option.bind_some]
  refine (congrArg (fun o : Option Nat => (o.bind (fun c => (U.vm.classes[c]?).map fun (k : Class) => match k.kind with | .array _ ty2 => decide (ty2 = FieldType.array ty) && decide (U.vm.findClass ("[" ++ (FieldType.array ty).toString) = some c) | _ => false) == some true)) hi).trans ?_
  simp [hk', hkind, f2]
def CXI (D : va_G) (cA : Nat → ClassId) (U : State) : Prop := CX D cA U ∧ va_AO "OrphanWave$Findings" U ∧ va_AOA .int U
theorem CXI.warm {D : va_G} {cA : Nat → ClassId} {s U : State} (h : CXI D cA s) (hW : s.WarmedH U.vm) : CXI D cA U := ⟨h.1.warm hW, h.2.1.moved hW.alike, h.2.2.moved hW.alike⟩
theorem CXI.same {D : va_G} {cA : Nat → ClassId} {s U : State} (h : CXI D cA s) (hv : s.vm = U.vm) : CXI D cA U := ⟨h.1.same hv, h.2.1.moved (by rw [hv]; exact Vm.Alike.refl U.vm), h.2.2.moved (by rw [hv]; exact Vm.Alike.refl U.vm)⟩
/-- fresh addresses: single cells, rows of arrays of arrays -/
abbrev FR : Type := (Nat → Nat) × (Nat → Nat → Nat)
def CPI (D : va_G) (cA : Nat → ClassId) (av : List Value) (sz : Nat) (W0 : va_W) : Array Value → State → Prop := fun v U => v = av.toArray ∧ U.heap.size = sz ∧ va_P D vwCl W0 U.heap ∧ CXI D cA U ∧ va_D (fun _ => True) W0
def CQI {S : Type} (D : va_G) (W1 : S → va_W) (A : Nat → Prop) : Array Value → State → Outcome → State → Prop := fun _ st oc t => oc = .returned none ∧ (∃ u : S, va_P D vwCl (W1 u) t.heap ∧ va_D A (W1 u)) ∧ va_F A st t
/-- a constructor's contract: the cells W0 become W1, with cells that are new at addresses u; mc cells of ms places come -/
def CTI {S : Type} (l : Launch) (y : MethodName) (ws : List Cond) (rm : Room) (D : va_G) (cA : Nat → ClassId) (av : List Value) (W0 : va_W) (W1 : S → va_W) (mc ms : Nat) : Prop := ∀ sz : Nat, Met l y ws rm (CPI D cA av sz W0) (CQI D W1 (va_A W0 sz)) mc ms (va_A W0 sz)
theorem CPI.blind {D : va_G} {cA : Nat → ClassId} {av : List Value} {sz : Nat} {W0 : va_W} : FrameBlind (CPI D cA av sz W0) := fun a U g mk q => ⟨q.1, q.2.1, q.2.2.1, q.2.2.2.1.same (U := U.calling g mk a) rfl, q.2.2.2.2⟩
def MXI (p : Program) (s : State) (m : MethodId) (args : Array Value) (meth : Method) (c : Code) (cc : ByteArray) (nL : Nat) (Ts : List Cond) (own : String) (D : va_G) (cA : Nat → ClassId) : Prop :=
  p.tables.exec = Jvm.exec ∧ c.code = cc ∧ c.maxLocals = nL ∧ s.vm.findClass own = some m.cls ∧ (∀ w ∈ Ts, w.before args s = true) ∧ meth.sig.returnType = none ∧ meth.locks = false ∧ meth.name = "<init>" ∧ CXI D cA s
theorem CTI.ofW {S : Type} {l : Launch} {y : MethodName} {ws ws' : List Cond} {rm : Room} {D : va_G} {cA : Nat → ClassId} {av : List Value} {W0 : va_W} {W1 : S → va_W} {cc : ByteArray} {maxL mc ms : Nat} (hy : plainName y.cls = true) (hi : y.name = "<init>") (hw : ws = Cond.code y cc maxL none :: ws') (hfit : (lg_sl av).length ≤ maxL)
    (body : ∀ (p : Program) (e : Env) (s : State) (m : MethodId) (below : List Frame) (meth : Method) (c : Code) (A : Nat → Prop), MXI p s m av.toArray meth c cc maxL ws y.cls D cA → (∀ q, s.heap.size ≤ q → A q) → va_P D vwCl W0 s.heap → va_D A W0 → ∀ ls : Array Slot, lv_has ls maxL (lv_args 0 av) →
      W p l e rm s m av.toArray below meth c s.heap [] 0 0 (MQ below (CQI D W1 A) av.toArray s mc ms A) (F0 m 0 ls [])) : CTI l y ws rm D cA av W0 W1 mc ms := by
  intro sz
  refine Met.ofW (cc := cc) (maxL := maxL) (ret := none) hy hw ?_
  intro p e s m args below meth c s₁ B hml hv
  obtain ⟨rfl, hsz, hP, hX, hD0⟩ := hv
  subst hsz
  rw [lg_entry_eq]
  exact body p e s m below meth c (va_A W0 s.heap.size) ⟨B.exec, B.bytes, hml, findClass_of_methodNamed B.named, atoms_spec (ws := ws) B.pre, B.returns, B.notSynchronized, (name_of_methodNamed B.named B.method).1.trans hi, hX⟩ (fun q h => Or.inr h) hP (hD0.self (sz := s.heap.size)) _ (lv_entry av hfit)
section MCTOR
variable {p : Program} {l : Launch} {e : Env} {R : Room} {s : State} {m : MethodId} {args : Array Value} {below : List Frame} {meth : Method} {c : Code} {H : Heap} {locs : List Loc} {cells slots mc ms : Nat} {Q : State → Prop}
variable {y : MethodName} {bytes cc : ByteArray} {maxL nL n index pc : Nat} {ws Ts : List Cond} {rm : Room} {own C host : String} {b : Addr} {As rest st : List Value} {ls : Array Slot} {D : va_G} {cA : Nat → ClassId} {A : Nat → Prop} {H0 : Heap} {WS W0 WR : va_W} {T1 : Type} {W1 : T1 → va_W}
theorem m_finI {av : List Value} (hrun : va_Run p l e R s m args below meth c H locs cells slots mc ms (F0 m pc ls st) rest (CQI D W1 (va_A W0 H.size) av.toArray) (va_A W0 H.size))
    (hP : va_P D vwCl WS H) (hD : va_D A WS) (hS : va_S A H0 H locs) (hA : ∀ q, H0.size ≤ q → A q) (is isR : List Nat) (hC : is.map (fun i => WS[i]?) = W0.map some) (hR : isR.map (fun i => WS[i]?) = WR.map some) (hnR : va_nd isR = true) (hdis : ∀ i ∈ isR, i ∉ is)
    (kk : ∀ (u : T1) (H1 : Heap) (locs1 : List Loc), va_P D vwCl (WR ++ W1 u) H1 → va_D A (WR ++ W1 u) → va_S A H0 H1 locs1 → W p l e R s m args below meth c H1 locs1 (cells + mc) (slots + ms) Q (F0 m (pc + 3) ls rest)) : W p l e R s m args below meth c H locs cells slots Q (F0 m pc ls st) := by
  intro T hT X
  obtain ⟨v, st₀, t, T', L, h0, X', hL, e1, e2, ⟨hv, ⟨u, hP1, hD1⟩, hz, hk⟩, st9⟩ := hrun T hT X
  cases hv
  rw [h0] at hz hk
  rw [← e1] at hP1 hz
  have hF := va_free (wc := W0) hD hS hA is hC
  have hk2 : ∀ q : Nat, q < H.size → ¬ va_A W0 H.size q → T'.heap[q]? = H[q]? := fun q h1 h2 => by rw [e1]; exact hk q h1 h2
  obtain ⟨hP2, hD2⟩ := va_join (wr := WR) (w1 := W1 u) hP hD is isR hC hR hnR hdis hk2 hF hP1 hD1
  obtain ⟨t2, a1, b1⟩ := kk u T'.heap (locs ++ L) hP2 hD2 ⟨Nat.le_trans hS.1 hz, fun q h1 h2 => by rw [hk2 q (Nat.lt_of_lt_of_le h1 hS.1) (fun z => h2 (hF q z))]; exact hS.2.1 q h1 h2, fun q hq => by
      rcases List.mem_append.mp hq with h | h
      · exact hS.2.2 q h
      · exact hF _ (hL q h)⟩ T' rfl X'
  exact ⟨t2, st9 t2 a1, b1⟩
theorem m_preI {av : List Value} (hX : CXI D cA s) (hP : va_P D vwCl WS H) (hD : va_D A WS) (is : List Nat) (hnd : va_nd is = true) (hC : is.map (fun i => WS[i]?) = W0.map some) : ∀ U : State, U.heap = H → s.WarmedH U.vm → CPI D cA av H.size W0 av.toArray U := by
  intro U hU hW
  refine ⟨rfl, by rw [hU], ?_, hX.warm hW, (hD.sub is hnd hC).weaken (fun _ _ _ _ => trivial)⟩
  rw [hU]
  intro k q hq
  obtain ⟨i, -, h2⟩ := pick_at hC k q hq
  exact hP i q h2
theorem m_callI (S : CallFix p m c cc nL s args Ts own) (hX : CXI D cA s) (hM : CTI l y ws rm D cA (.ref b :: As) W0 W1 mc ms) (cw : CallB R s args own index y bytes maxL none ws rm mc ms n ∧ y.name = "<init>" ∧ (Cond.instanceMethod y).before args s = true) (hP : va_P D vwCl WS H) (hD : va_D A WS) (hS : va_S A H0 H locs) (hA : ∀ q, H0.size ≤ q → A q)
    (is isR : List Nat) (hnd : va_nd is = true) (hC : is.map (fun i => WS[i]?) = W0.map some) (hR : isR.map (fun i => WS[i]?) = WR.map some) (hnR : va_nd isR = true) (hdis : ∀ i ∈ isR, i ∉ is)
    (hn : As.length = n) (hsize : ls.size = nL) (hst : st = As.reverse ++ .ref b :: rest) (hrest : (rest.map fun v => v.category).sum ≤ 8) (hf : cells + mc ≤ R.cells ∧ slots + ms ≤ R.slots) (hdg : decode cc pc = .ok (.invokespecial index, 3))
    (kk : ∀ (u : T1) (H1 : Heap) (locs1 : List Loc), va_P D vwCl (WR ++ W1 u) H1 → va_D A (WR ++ W1 u) → va_S A H0 H1 locs1 → W p l e R s m args below meth c H1 locs1 (cells + mc) (slots + ms) Q (F0 m (pc + 3) ls rest)) : W p l e R s m args below meth c H locs cells slots Q (F0 m pc ls st) :=
  m_finI (va_runI (b := b) (As := As) (rest := rest) S (hM H.size) cw ⟨CPI.blind, m_preI hX hP hD is hnd hC⟩ rfl hn hsize hst (lv_room hrest) hdg hf) hP hD hS hA is isR hC hR hnR hdis kk
theorem m_callIN (S : CallFix p m c cc nL s args Ts own) (hX : CXI D cA s) (hM : CTI l y ws rm D cA (.ref b :: As) W0 W1 mc ms) (cw : va_CN R s args own index y host bytes maxL none ws rm mc ms n ∧ y.name = "<init>" ∧ (Cond.instanceMethod y).before args s = true) (hP : va_P D vwCl WS H) (hD : va_D A WS) (hS : va_S A H0 H locs) (hA : ∀ q, H0.size ≤ q → A q)
    (is isR : List Nat) (hnd : va_nd is = true) (hC : is.map (fun i => WS[i]?) = W0.map some) (hR : isR.map (fun i => WS[i]?) = WR.map some) (hnR : va_nd isR = true) (hdis : ∀ i ∈ isR, i ∉ is)
    (hn : As.length = n) (hsize : ls.size = nL) (hst : st = As.reverse ++ .ref b :: rest) (hrest : (rest.map fun v => v.category).sum ≤ 8) (hf : cells + mc ≤ R.cells ∧ slots + ms ≤ R.slots) (hdg : decode cc pc = .ok (.invokespecial index, 3))
    (kk : ∀ (u : T1) (H1 : Heap) (locs1 : List Loc), va_P D vwCl (WR ++ W1 u) H1 → va_D A (WR ++ W1 u) → va_S A H0 H1 locs1 → W p l e R s m args below meth c H1 locs1 (cells + mc) (slots + ms) Q (F0 m (pc + 3) ls rest)) : W p l e R s m args below meth c H locs cells slots Q (F0 m pc ls st) :=
  m_finI (va_runIN (b := b) (As := As) (rest := rest) S (hM H.size) cw ⟨CPI.blind, m_preI hX hP hD is hnd hC⟩ rfl hn hsize hst (lv_room hrest) hdg hf) hP hD hS hA is isR hC hR hnR hdis kk
theorem m_vretI {u : T1} (hx : p.tables.exec = Jvm.exec) (hb : c.code = cc) (hr : meth.sig.returnType = none) (hlocks : meth.locks = false) (hP : va_P D vwCl (W1 u) H) (hD : va_D A (W1 u)) (hS : va_S A s.heap H locs) (h1 : cells ≤ mc) (h2 : slots ≤ ms) (hdg : decode cc pc = .ok (.return_, 1)) : W p l e R s m args below meth c H locs cells slots (MQ below (CQI D W1 A) args s mc ms A) (F0 m pc ls []) :=
  W.widen h1 h2 (W.vret hx hb hr (fun t ht _ => ⟨rfl, ⟨u, by rw [ht]; exact hP, hD⟩, hS.F ht⟩) hS.2.2 hdg hlocks)
theorem m_newa {atype : ArrayType} {ty : FieldType} (t0 : Nat) (ht0 : (TYL cA)[t0]? = some (cA t0, ty)) (hpr : refKind ty = false) (hx : p.tables.exec = Jvm.exec) (hb : c.code = cc) (harr : (Cond.arrayClass (newarray.typeOf atype)).before args s = true) (hty : newarray.typeOf atype = ty) (hK : va_K D vwCl (TYL cA) s) (hP : va_P D vwCl WS H) (hD : va_D A WS) (hS : va_S A H0 H locs) (hA : ∀ q, H0.size ≤ q → A q)
    {k : Int32} {N' : Nat} {a0 : vp_A} (ha : ∀ cA : ClassId, vp_cell cA a0 = arrV cA N' (fun _ => defaultValue ty)) (hn : ¬ k < 0) (hN : k.toNatClampNeg = N') (hbytes : N' * componentBytes ty ≤ 536870912) (hcells : cells + 1 ≤ R.cells) (hslots : slots + N' ≤ R.slots) (hdg : decode cc pc = .ok (.newarray atype, 2))
    (kk : ∀ (q : Nat) (H1 : Heap), va_P D vwCl (WS ++ [(q, .inl (cA t0, a0))]) H1 → va_D A (WS ++ [(q, .inl (cA t0, a0))]) → va_S A H0 H1 locs → W p l e R s m args below meth c H1 locs (cells + 1) (slots + N') Q (F0 m (pc + 2) ls (.ref q :: rest))) : W p l e R s m args below meth c H locs cells slots Q (F0 m pc ls (.int k :: rest)) := by
  refine va_newa hx hb harr hty hK hP hD hS hA ha hn hN hbytes hcells hslots hdg (fun q cA' H1 hK' hP' hD' hS' => ?_)
  have e1 := (hK.2 t0 _ ht0).2
  have e2 := (hK'.2 6 (cA', ty) rfl).2
  have e3 : cA' = cA t0 := by
    cases ty with
    | object C => cases hpr
    | _ => exact Option.some.inj (Eq.trans (Eq.symm e2) e1)
  subst e3
  exact kk q H1 hP' hD' hS'
theorem m_newq (hx : p.tables.exec = Jvm.exec) (hb : c.code = cc) (hown : s.vm.findClass own = some m.cls) (hclink : (Cond.classLink own index "OrphanWave$Findings").before args s = true) (hover : va_AO "OrphanWave$Findings" s) (hK : va_K D vwCl (TYL cA) s) (hP : va_P D vwCl WS H) (hD : va_D A WS) (hS : va_S A H0 H locs) (hA : ∀ q, H0.size ≤ q → A q)
    {k : Int32} {N' : Nat} (hn : ¬ k < 0) (hN : k.toNatClampNeg = N') (hbytes : N' * 4 ≤ 536870912) (hcells : cells + 1 ≤ R.cells) (hslots : slots + N' ≤ R.slots) (hdg : decode cc pc = .ok (.anewarray index, 3))
    (kk : ∀ (q : Nat) (H1 : Heap), va_P D vwCl (WS ++ [(q, .inl (cA 4, N', .inr (.inr (.inr (.inr (fun _ => none))))))]) H1 → va_D A (WS ++ [(q, .inl (cA 4, N', .inr (.inr (.inr (.inr (fun _ => none))))))]) → va_S A H0 H1 locs → W p l e R s m args below meth c H1 locs (cells + 1) (slots + N') Q (F0 m (pc + 3) ls (.ref q :: rest))) : W p l e R s m args below meth c H locs cells slots Q (F0 m pc ls (.int k :: rest)) := by
  refine va_newq hx hb hown hclink hover hK hP hD hS hA hn hN hbytes hcells hslots hdg (fun q cA' H1 hK' hP' hD' hS' => ?_)
  obtain ⟨-, -, -, -, -, e1⟩ := (hK.2 4 _ rfl).2
  obtain ⟨-, -, -, -, -, e2⟩ := (hK'.2 6 (cA', .object "OrphanWave$Findings") rfl).2
  have e3 : cA' = cA 4 := Option.some.inj (Eq.trans (Eq.symm e2) e1)
  subst e3
  exact kk q H1 hP' hD' hS'
theorem pl_grw (N K : Nat) (r : Nat → Nat) (k : ClassId) (f : Nat → va_E) : va_pl ([] ++ (List.range N).map r) (vr_up f ((List.range N).map r) (.inl (k, (K, .inl (fun _ => 0))))) = grw N r k K (fun _ _ => 0) := by
  unfold va_pl grw
  rw [List.nil_append, List.map_map]
  apply List.map_congr_left
  intro i hi
  show (r i, vr_up f ((List.range N).map r) _ (r i)) = _
  rw [vr_up_in (List.mem_map.mpr ⟨i, hi, rfl⟩)]
theorem m_mna (hx : p.tables.exec = Jvm.exec) (hb : c.code = cc) (hown : s.vm.findClass own = some m.cls) (hclink : (Cond.classLink own index "[[I").before args s = true) (hover : va_AOA .int s) (harr : (Cond.arrayClass .int).before args s = true) (hK : va_K D vwCl (TYL cA) s) (hP : va_P D vwCl WS H) (hD : va_D A WS) (hS : va_S A H0 H locs) (hA : ∀ q, H0.size ≤ q → A q)
    {k1 k2 : Int32} {N' K' : Nat} (hn : ¬ k1 < 0) (hk : ¬ k2 < 0) (hN : k1.toNatClampNeg = N') (hM : k2.toNatClampNeg = K') (hb1 : N' * 4 ≤ 536870912) (hb2 : K' * componentBytes .int ≤ 536870912) (hb3 : K' ≤ 536870912) (hcells : cells + (1 + N') ≤ R.cells) (hslots : slots + (N' + N' * K') ≤ R.slots) (hdg : decode cc pc = .ok (.multianewarray index 2, 4))
    (kk : ∀ (q : Nat) (r : Nat → Nat) (H1 : Heap), va_P D vwCl (WS ++ [(q, .inl (cA 5, N', .inr (.inr (.inr (.inr (gro N' r))))))] ++ grw N' r (cA 1) K' (fun _ _ => 0)) H1 → va_D A (WS ++ [(q, .inl (cA 5, N', .inr (.inr (.inr (.inr (gro N' r))))))] ++ grw N' r (cA 1) K' (fun _ _ => 0)) → va_S A H0 H1 locs → W p l e R s m args below meth c H1 locs (cells + 1 + N') (slots + N' + N' * K') Q (F0 m (pc + 4) ls (.ref q :: rest))) : W p l e R s m args below meth c H locs cells slots Q (F0 m pc ls (.int k2 :: .int k1 :: rest)) := by
  have hcy : s.vm.findClass (FieldType.array .int).toString = some (cA 1) := (hK.2 1 _ rfl).2
  refine va_mna (X := WS) (L := []) (f := fun _ => .inr (0, [])) (z := (K', .inl (fun _ => 0))) hx hb hown hclink hover harr hcy hK (by rw [show va_pl [] _ = ([] : va_W) from rfl, List.append_nil]; exact hP) (by rw [show va_pl [] _ = ([] : va_W) from rfl, List.append_nil]; exact hD) hS hA hn hk hN hM hb1 hb2 hb3 rfl rfl hcells hslots (fun c9 => ?_) hdg (fun q r cA' H1 _ _ hK' hP' hD' hS' => ?_)
  · show ({ cls := c9, slots := Array.replicate K' (defaultValue .int), vm := .none } : Cell) = _
    rw [arrV_new]
    rfl
  · have e1 := (hK.2 5 _ rfl).2
    have e2 := (hK'.2 6 (cA', .array .int) rfl).2
    have e3 : cA' = cA 5 := Option.some.inj (Eq.trans (Eq.symm e2) e1)
    subst e3
    rw [pl_grw] at hP' hD'
    exact kk q r H1 hP' hD' hS'
theorem join_tail {B : Nat → Prop} {cl : List vw_C} {x : Nat × va_E} {H1 : Heap} {W9 : va_W} (hP : va_P D cl (x :: WR) H) (hD : va_D B (x :: WR)) (hk : ∀ q : Nat, q < H.size → ¬ va_A [x] H.size q → H1[q]? = H[q]?) (hF : ∀ q, va_A [x] H.size q → B q) (hP1 : va_P D cl W9 H1) (hD1 : va_D (va_A [x] H.size) W9) : va_P D cl (WR ++ W9) H1 ∧ va_D B (WR ++ W9) := by
  have apart : ∀ (k : Nat) (q : Nat × va_E), WR[k]? = some q → q.1 < H.size ∧ ¬ va_A [x] H.size q.1 := by
    intro k q hq
    have h2 : (x :: WR)[k + 1]? = some q := hq
    have hl := (hP (k + 1) q h2).lt
    refine ⟨hl, ?_⟩
    rintro (⟨k2, e, h⟩ | h)
    · have hk2 : k2 = 0 := by
        have := (List.getElem?_eq_some_iff.mp h).1
        simpa using this
      subst hk2
      have h3 : x = (q.1, e) := Option.some.inj h
      have := hD.1 (k + 1) 0 q x h2 rfl (by rw [h3])
      omega
    · omega
  refine ⟨va_P.app (fun k q hq => (hP (k + 1) q hq).kept (hk q.1 (apart k q hq).1 (apart k q hq).2)) hP1, va_D.app ⟨fun i j p q hi hj e => ?_, fun k q hq => hD.2 (k + 1) q hq⟩ (hD1.weaken (fun k q _ h => hF q.1 h)) (fun i j p q hi hj e => ?_)⟩
  · have := hD.1 (i + 1) (j + 1) p q hi hj e
    omega
  · exact (apart i p hi).2 (by rw [e]; exact hD1.2 j q hj)
theorem m_finL {av : List Value} {x : Nat × va_E} (hrun : va_Run p l e R s m args below meth c H locs cells slots mc ms (F0 m pc ls st) rest (CQI D W1 (va_A [x] H.size) av.toArray) (va_A [x] H.size))
    (hP : va_P D vwCl (x :: WR) H) (hD : va_D A (x :: WR)) (hS : va_S A H0 H locs) (hA : ∀ q, H0.size ≤ q → A q)
    (kk : ∀ (u : T1) (H1 : Heap) (locs1 : List Loc), va_P D vwCl (WR ++ W1 u) H1 → va_D A (WR ++ W1 u) → va_S A H0 H1 locs1 → W p l e R s m args below meth c H1 locs1 (cells + mc) (slots + ms) Q (F0 m (pc + 3) ls rest)) : W p l e R s m args below meth c H locs cells slots Q (F0 m pc ls st) := by
  intro T hT X
  obtain ⟨v, st₀, t, T', L, h0, X', hL, e1, e2, ⟨hv, ⟨u, hP1, hD1⟩, hz, hk⟩, st9⟩ := hrun T hT X
  cases hv
  rw [h0] at hz hk
  rw [← e1] at hP1 hz
  have hF := va_free (ws := x :: WR) (wc := [x]) hD hS hA [0] rfl
  have hk2 : ∀ q : Nat, q < H.size → ¬ va_A [x] H.size q → T'.heap[q]? = H[q]? := fun q h1 h2 => by rw [e1]; exact hk q h1 h2
  obtain ⟨hP2, hD2⟩ := join_tail hP hD hk2 hF hP1 hD1
  obtain ⟨t2, a1, b1⟩ := kk u T'.heap (locs ++ L) hP2 hD2 ⟨Nat.le_trans hS.1 hz, fun q h1 h2 => by rw [hk2 q (Nat.lt_of_lt_of_le h1 hS.1) (fun z => h2 (hF q z))]; exact hS.2.1 q h1 h2, fun q hq => by
      rcases List.mem_append.mp hq with h | h
      · exact hS.2.2 q h
      · exact hF _ (hL q h)⟩ T' rfl X'
  exact ⟨t2, st9 t2 a1, b1⟩
theorem m_preL {av : List Value} {x : Nat × va_E} (hX : CXI D cA s) (hP : va_P D vwCl (x :: WR) H) (hD : va_D A (x :: WR)) : ∀ U : State, U.heap = H → s.WarmedH U.vm → CPI D cA av H.size [x] av.toArray U := m_preI hX hP hD [0] rfl rfl
theorem m_callIL {x : Nat × va_E} (S : CallFix p m c cc nL s args Ts own) (hX : CXI D cA s) (hM : CTI l y ws rm D cA (.ref b :: As) [x] W1 mc ms) (cw : CallB R s args own index y bytes maxL none ws rm mc ms n ∧ y.name = "<init>" ∧ (Cond.instanceMethod y).before args s = true) (hP : va_P D vwCl (x :: WR) H) (hD : va_D A (x :: WR)) (hS : va_S A H0 H locs) (hA : ∀ q, H0.size ≤ q → A q)
    (hn : As.length = n) (hsize : ls.size = nL) (hst : st = As.reverse ++ .ref b :: rest) (hrest : (rest.map fun v => v.category).sum ≤ 8) (hf : cells + mc ≤ R.cells ∧ slots + ms ≤ R.slots) (hdg : decode cc pc = .ok (.invokespecial index, 3))
    (kk : ∀ (u : T1) (H1 : Heap) (locs1 : List Loc), va_P D vwCl (WR ++ W1 u) H1 → va_D A (WR ++ W1 u) → va_S A H0 H1 locs1 → W p l e R s m args below meth c H1 locs1 (cells + mc) (slots + ms) Q (F0 m (pc + 3) ls rest)) : W p l e R s m args below meth c H locs cells slots Q (F0 m pc ls st) :=
  m_finL (va_runI (b := b) (As := As) (rest := rest) S (hM H.size) cw ⟨CPI.blind, m_preL hX hP hD⟩ rfl hn hsize hst (lv_room hrest) hdg hf) hP hD hS hA kk
theorem m_callINL {x : Nat × va_E} (S : CallFix p m c cc nL s args Ts own) (hX : CXI D cA s) (hM : CTI l y ws rm D cA (.ref b :: As) [x] W1 mc ms) (cw : va_CN R s args own index y host bytes maxL none ws rm mc ms n ∧ y.name = "<init>" ∧ (Cond.instanceMethod y).before args s = true) (hP : va_P D vwCl (x :: WR) H) (hD : va_D A (x :: WR)) (hS : va_S A H0 H locs) (hA : ∀ q, H0.size ≤ q → A q)
    (hn : As.length = n) (hsize : ls.size = nL) (hst : st = As.reverse ++ .ref b :: rest) (hrest : (rest.map fun v => v.category).sum ≤ 8) (hf : cells + mc ≤ R.cells ∧ slots + ms ≤ R.slots) (hdg : decode cc pc = .ok (.invokespecial index, 3))
    (kk : ∀ (u : T1) (H1 : Heap) (locs1 : List Loc), va_P D vwCl (WR ++ W1 u) H1 → va_D A (WR ++ W1 u) → va_S A H0 H1 locs1 → W p l e R s m args below meth c H1 locs1 (cells + mc) (slots + ms) Q (F0 m (pc + 3) ls rest)) : W p l e R s m args below meth c H locs cells slots Q (F0 m pc ls st) :=
  m_finL (va_runIN (b := b) (As := As) (rest := rest) S (hM H.size) cw ⟨CPI.blind, m_preL hX hP hD⟩ rfl hn hsize hst (lv_room hrest) hdg hf) hP hD hS hA kk
/-- the last cell to the front -/
theorem rot_P {cl : List vw_C} {x : Nat × va_E} (h : va_P D cl (WS ++ [x]) H) : va_P D cl (x :: WS) H := by
  intro k q hq
  have hm : q ∈ WS ++ [x] := by
    rcases List.mem_cons.mp (List.mem_of_getElem? hq) with e | e
    · rw [e]; exact List.mem_append_right _ (List.mem_singleton.mpr rfl)
    · exact List.mem_append_left _ e
  obtain ⟨i, hi⟩ := List.getElem?_of_mem hm
  exact h i q hi
theorem rot_D {B : Nat → Prop} {x : Nat × va_E} (h : va_D B (WS ++ [x])) : va_D B (x :: WS) := by
  have at' : ∀ (k : Nat) (q : Nat × va_E), (x :: WS)[k]? = some q → (WS ++ [x])[if k = 0 then WS.length else k - 1]? = some q := by
    intro k q hq
    cases k with
    | zero => rw [if_pos rfl, List.getElem?_append_right (Nat.le_refl _), Nat.sub_self]; exact hq
    | succ k =>
      rw [if_neg (by omega), Nat.add_sub_cancel]
      have hq' : WS[k]? = some q := hq
      rw [List.getElem?_append_left (List.getElem?_eq_some_iff.mp hq').1]
      exact hq'
  have lt' : ∀ (k : Nat) (q : Nat × va_E), (x :: WS)[k]? = some q → k < WS.length + 1 := fun k q hq => by simpa using (List.getElem?_eq_some_iff.mp hq).1
  refine ⟨fun i j p q hi hj e => ?_, fun k q hq => h.2 _ q (at' k q hq)⟩
  have h1 := h.1 _ _ p q (at' i p hi) (at' j q hj) e
  have h2 := lt' i p hi
  have h3 := lt' j q hj
  by_cases e1 : i = 0 <;> by_cases e2 : j = 0
  · omega
  · rw [if_pos e1, if_neg e2] at h1; omega
  · rw [if_neg e1, if_pos e2] at h1; omega
  · rw [if_neg e1, if_neg e2] at h1; omega
end MCTOR
