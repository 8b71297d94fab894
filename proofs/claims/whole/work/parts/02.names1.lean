/-! ===== BEGIN words of one list among another's, by their places ===== -/
theorem goodIn_r {big : List Cond} (ws : List Cond) (ps : List Nat) (hp : ws = ps.filterMap (fun i => big[i]?)) (h : ws.all goodWord = true) : GoodIn big ws := by
  intro w hw
  have h1 := List.all_eq_true.mp h w hw
  rw [hp] at hw
  obtain ⟨i, -, hi⟩ := List.mem_filterMap.mp hw
  have hm : w ∈ big := by first | exact List.mem_of_getElem? hi | exact List.getElem?_mem hi
  exact ⟨hm, good_of_word h1⟩
theorem goodIn_app {big a b : List Cond} (ha : GoodIn big a) (hb : GoodIn big b) : GoodIn big (a ++ b) := fun w h => (List.mem_append.mp h).elim (ha w) (hb w)
theorem goodIn_ca {big a b : List Cond} {c : Cond} (ha : GoodIn big (c :: a)) (hb : GoodIn big b) : GoodIn big (c :: (a ++ b)) := fun w h => (List.mem_cons.mp h).elim (fun e => ha w (List.mem_cons.mpr (Or.inl e))) (fun h => (List.mem_append.mp h).elim (fun h => ha w (List.mem_cons.mpr (Or.inr h))) (hb w))
theorem goodIn_sub {big ws : List Cond} (hm : ∀ w ∈ ws, w ∈ big) (h : ws.all goodWord = true) : GoodIn big ws := fun w hw => ⟨hm w hw, good_of_word (List.all_eq_true.mp h w hw)⟩
/-! ===== END ===== -/

/-! ===== BEGIN new T[n][m]: the outer array a place, the inner ones among the pooled ===== -/
/-- f, but v at every address of l -/
def vr_up {α : Type} (f : Nat → α) (l : List Nat) (v : α) : Nat → α := fun a => if a ∈ l then v else f a
theorem vr_up_in {α : Type} {f : Nat → α} {l : List Nat} {v : α} {a : Nat} (h : a ∈ l) : vr_up f l v a = v := if_pos h
theorem vr_up_ne {α : Type} {f : Nat → α} {l : List Nat} {v : α} {a : Nat} (h : a ∉ l) : vr_up f l v a = f a := if_neg h
theorem vr_rows {L l : List Nat} {f : Nat → va_E} {e : va_E} (h : ∀ a, a ∈ l → a ∉ L) : va_pl L f ++ l.map (fun a => (a, e)) = va_pl (L ++ l) (vr_up f l e) := by
  unfold va_pl
  rw [List.map_append]
  congr 1
  · apply List.map_congr_left
    intro a ha
    rw [vr_up_ne (fun q => h a q ha)]
  · apply List.map_congr_left
    intro a ha
    rw [vr_up_in ha]
theorem vr_lay {X rows : va_W} {x : Nat × va_E} {pl : va_W} {D : va_G} {cl : List vw_C} {H : Heap} (hP : va_P D cl (((X ++ pl) ++ [x]) ++ rows) H) : va_P D cl ((X ++ [x]) ++ (pl ++ rows)) H := by
  rw [List.append_assoc (X ++ pl)] at hP
  have h := va_P.swap hP
  rw [← List.append_assoc X] at h
  have h2 := va_P.swap h
  rw [List.append_assoc (X ++ [x])] at h2
  exact h2
theorem vr_layD {X rows : va_W} {x : Nat × va_E} {pl : va_W} {A : Nat → Prop} (hD : va_D A (((X ++ pl) ++ [x]) ++ rows)) : va_D A ((X ++ [x]) ++ (pl ++ rows)) := by
  rw [List.append_assoc (X ++ pl)] at hD
  have h := va_D.swap hD
  rw [← List.append_assoc X] at h
  have h2 := va_D.swap h
  rw [List.append_assoc (X ++ [x])] at h2
  exact h2
theorem vr_outer (c : ClassId) (N h0 : Nat) : ∀ i : Nat, Jvm.Free.Multi.outerC c N h0 i = arrV c N (fun j => va_rf (if j < i then some (h0 + 1 + j) else none))
  | 0 => by
    show ({ cls := c, slots := Array.replicate N .null, vm := .none } : Cell) = _
    rw [arrV_new]
    refine congrArg (arrV c N) (funext fun j => ?_)
    simp [va_rf]
  | i + 1 => by
    show (Jvm.Free.Multi.outerC c N h0 i).setSlot i (.ref (h0 + 1 + i)) = _
    rw [vr_outer c N h0 i, arrV_store]
    refine congrArg (arrV c N) (funext fun j => ?_)
    by_cases e : j = i
    · subst e
      simp [updV, va_rf]
    · by_cases h : j < i
      · simp [updV, e, h, Nat.lt_succ_of_lt h]
      · simp [updV, e, h, show ¬ j < i + 1 by omega]
/-- what the tables say of an array of arrays (the printed rows name it; the kit has no such word) -/
def va_AOA (ty : FieldType) (U : State) : Prop := (Cond.arrayOver (.array ty)).before #[] U = true
theorem va_AOA.use {ty : FieldType} {A : Array Value} {U : State} (h : va_AOA ty U) : (Cond.arrayOver (.array ty)).before A U = true := h
section VGM
variable {p : Program} {l : Launch} {e : Env} {R : Room} {s : State} {m : MethodId} {args : Array Value} {below : List Frame} {meth : Method} {c : Code} {H : Heap} {locs : List Loc} {cells slots : Nat} {Q : State → Prop}
variable {cc : ByteArray} {pc : Nat} {ls : Array Slot} {rest : List Value} {D : va_G} {cl : List vw_C} {A : Nat → Prop} {a : Nat} {tys : List (ClassId × FieldType)} {ws : va_W} {H0 : Heap}
theorem va_mna {X : va_W} {L : List Nat} {f : Nat → va_E} {cc : ByteArray} (hexec : p.tables.exec = Jvm.exec) (hb : c.code = cc) {own : String} {index : Nat} {ty : FieldType} {cy : ClassId} (hown : s.vm.findClass own = some m.cls) (hclink : (Cond.classLink own index ("[" ++ (FieldType.array ty).toString)).before args s = true) (hover : va_AOA ty s) (harr : (Cond.arrayClass ty).before args s = true) (hcy : s.vm.findClass (FieldType.array ty).toString = some cy)
    (hK : va_K D cl tys s) (hP : va_P D cl (X ++ va_pl L f) H) (hD : va_D A (X ++ va_pl L f)) (hS : va_S A H0 H locs) (hA : ∀ q, H0.size ≤ q → A q) {n k : Int32} {N' K' : Nat} {z : vp_A} (hn : ¬ n < 0) (hk : ¬ k < 0) (hN : n.toNatClampNeg = N') (hM : k.toNatClampNeg = K')
    (hb1 : N' * 4 ≤ 536870912) (hb2 : K' * componentBytes ty ≤ 536870912) (hb3 : K' ≤ 536870912) (hdf : fits ty (defaultValue ty) = true) (hdd : (defaultValue ty).isDefault = true) (hcells : cells + (1 + N') ≤ R.cells) (hslots : slots + (N' + N' * K') ≤ R.slots) (hz : ∀ c : ClassId, Jvm.Free.Multi.innerC c K' (defaultValue ty) = vp_cell c z) (hdg : decode cc pc = .ok (.multianewarray index 2, 4))
    (kk : ∀ (q : Nat) (r : Nat → Nat) (cA : ClassId) (H1 : Heap), (∀ i j : Nat, i < N' → j < N' → r i = r j → i = j) → (∀ i : Nat, i < N' → r i ∉ L) → va_K D cl (tys ++ [(cA, .array ty)]) s →
      va_P D cl ((X ++ [(q, .inl (cA, N', .inr (.inr (.inr (.inr (fun i => if i < N' then some (r i) else none))))))]) ++ va_pl (L ++ (List.range N').map r) (vr_up f ((List.range N').map r) (.inl (cy, z)))) H1 → va_D A ((X ++ [(q, .inl (cA, N', .inr (.inr (.inr (.inr (fun i => if i < N' then some (r i) else none))))))]) ++ va_pl (L ++ (List.range N').map r) (vr_up f ((List.range N').map r) (.inl (cy, z)))) → va_S A H0 H1 locs →
      W p l e R s m args below meth c H1 locs (cells + 1 + N') (slots + N' + N' * K') Q (F0 m (pc + 4) ls (.ref q :: rest))) : W p l e R s m args below meth c H locs cells slots Q (F0 m pc ls (.int k :: .int n :: rest)) := by
  subst hN
  subst hM
  intro T hT Xs
  obtain ⟨vm₁, cA, comp, -, fA, fC, hO, -, X', step⟩ := Xs.multianewarray2F hexec hown hclink (va_AOA.use hover) harr (g := F0 m pc ls (.int k :: .int n :: rest)) rfl (by rw [hb]; exact hdg) rfl hn hk hb1 hb2 hb3 hdf hdd hcells hslots
  have ec : some cy = some comp := hcy.symm.trans fC
  cases ec
  generalize hF : Jvm.Free.Multi.fill (T.setVm vm₁) cA cy n.toNatClampNeg k.toNatClampNeg (defaultValue ty) n.toNatClampNeg = F at X' step
  have hTh : (T.setVm vm₁).heap = H := hT
  obtain ⟨f1, f2, -, -⟩ := Jvm.Free.Multi.fill_facts (T.setVm vm₁) cA cy n.toNatClampNeg k.toNatClampNeg (defaultValue ty) n.toNatClampNeg
  rw [hF, hTh] at f1 f2
  have hold : ∀ x : Nat, x < H.size → F.heap[x]? = H[x]? := fun x hx => by
    have := Jvm.Free.Multi.fill_old (T.setVm vm₁) cA cy n.toNatClampNeg k.toNatClampNeg (defaultValue ty) (a := x) (by rw [hTh]; exact hx) n.toNatClampNeg
    rw [hF, hTh] at this
    exact this
  have hrow : ∀ j : Nat, j < n.toNatClampNeg → F.heap[H.size + 1 + j]? = some (vp_cell cy z) := fun j hj => by
    have := Jvm.Free.Multi.fill_inner (T.setVm vm₁) cA cy n.toNatClampNeg k.toNatClampNeg (defaultValue ty) n.toNatClampNeg j hj
    rw [hF, hTh, hz] at this
    exact this
  have hout : Jvm.Free.Multi.outerC cA n.toNatClampNeg H.size n.toNatClampNeg = vp_cell cA (n.toNatClampNeg, .inr (.inr (.inr (.inr (fun i => if i < n.toNatClampNeg then some (H.size + 1 + i) else none))))) := by
    rw [vp_cell_q]
    exact vr_outer cA n.toNatClampNeg H.size n.toNatClampNeg
  rw [hout] at f2
  have hlt : ∀ a, a ∈ L → a < H.size := fun a ha => by
    obtain ⟨k9, hk9⟩ := va_pl_get (X := X) (f := f) ha
    exact (hP k9 _ hk9).lt
  have hnl : ∀ i : Nat, i < n.toNatClampNeg → H.size + 1 + i ∉ L := fun i _ h => by
    have := hlt _ h
    omega
  have hnm : ∀ a, a ∈ (List.range n.toNatClampNeg).map (fun i => H.size + 1 + i) → a ∉ L := fun a ha h => by
    obtain ⟨i, -, rfl⟩ := List.mem_map.mp ha
    have := hlt _ h
    omega
  have hP0 : va_P D cl (X ++ va_pl L f) F.heap := hP.kept (fun k9 x hx => hold x.1 ((hP k9 x hx).lt))
  have hP1 : va_P D cl ((X ++ va_pl L f) ++ [(H.size, .inl (cA, n.toNatClampNeg, .inr (.inr (.inr (.inr (fun i => if i < n.toNatClampNeg then some (H.size + 1 + i) else none))))))]) F.heap := hP0.app (fun k9 x hx => by
    have h0 : k9 < 1 := (List.getElem?_eq_some_iff.mp hx).1
    rw [show k9 = 0 by omega] at hx
    cases hx
    exact f2)
  have hP2 : va_P D cl (((X ++ va_pl L f) ++ [(H.size, .inl (cA, n.toNatClampNeg, .inr (.inr (.inr (.inr (fun i => if i < n.toNatClampNeg then some (H.size + 1 + i) else none))))))]) ++ ((List.range n.toNatClampNeg).map (fun i => H.size + 1 + i)).map (fun a => (a, .inl (cy, z)))) F.heap := hP1.app (fun k9 x hx => by
    obtain ⟨a, ha, rfl⟩ := List.mem_map.mp (List.mem_of_getElem? hx)
    obtain ⟨i, hi, rfl⟩ := List.mem_map.mp ha
    exact hrow i (List.mem_range.mp hi))
  have hD2 : va_D A (((X ++ va_pl L f) ++ [(H.size, .inl (cA, n.toNatClampNeg, .inr (.inr (.inr (.inr (fun i => if i < n.toNatClampNeg then some (H.size + 1 + i) else none))))))]) ++ ((List.range n.toNatClampNeg).map (fun i => H.size + 1 + i)).map (fun a => (a, .inl (cy, z)))) := by
    have hD1 := hD.push (e := .inl (cA, n.toNatClampNeg, .inr (.inr (.inr (.inr (fun i => if i < n.toNatClampNeg then some (H.size + 1 + i) else none)))))) hP rfl (hA _ hS.1)
    generalize hW1 : (X ++ va_pl L f) ++ [(H.size, .inl (cA, n.toNatClampNeg, .inr (.inr (.inr (.inr (fun i => if i < n.toNatClampNeg then some (H.size + 1 + i) else none))))))] = W1 at hD1 hP1 ⊢
    have hle : ∀ (k9 : Nat) (x : Nat × va_E), W1[k9]? = some x → x.1 ≤ H.size := fun k9 x hx => by
      rw [← hW1] at hx
      by_cases hl : k9 < (X ++ va_pl L f).length
      · rw [List.getElem?_append_left hl] at hx
        exact Nat.le_of_lt ((hP k9 x hx).lt)
      · rw [List.getElem?_append_right (by omega)] at hx
        have h0 : k9 - (X ++ va_pl L f).length < 1 := (List.getElem?_eq_some_iff.mp hx).1
        rw [show k9 - (X ++ va_pl L f).length = 0 by omega] at hx
        cases hx
        exact Nat.le_refl _
    have hr : ∀ (k9 : Nat) (x : Nat × va_E), (((List.range n.toNatClampNeg).map (fun i => H.size + 1 + i)).map (fun a => ((a, .inl (cy, z)) : Nat × va_E)))[k9]? = some x → x.1 = H.size + 1 + k9 := fun k9 x hx => by
      rw [List.getElem?_map, List.getElem?_map] at hx
      by_cases h9 : k9 < n.toNatClampNeg
      · rw [List.getElem?_range h9] at hx
        cases hx
        rfl
      · have hn0 : (List.range n.toNatClampNeg)[k9]? = none := List.getElem?_eq_none (by rw [List.length_range]; omega)
        rw [hn0] at hx
        cases hx
    refine ⟨fun i j x y hi hj hxy => ?_, fun k9 x hx => ?_⟩
    · by_cases h1 : i < W1.length <;> by_cases h2 : j < W1.length
      · rw [List.getElem?_append_left h1] at hi
        rw [List.getElem?_append_left h2] at hj
        exact hD1.1 i j x y hi hj hxy
      · rw [List.getElem?_append_left h1] at hi
        rw [List.getElem?_append_right (by omega)] at hj
        have := hle _ _ hi
        have := hr _ _ hj
        omega
      · rw [List.getElem?_append_right (by omega)] at hi
        rw [List.getElem?_append_left h2] at hj
        have := hle _ _ hj
        have := hr _ _ hi
        omega
      · rw [List.getElem?_append_right (by omega)] at hi hj
        have := hr _ _ hi
        have := hr _ _ hj
        omega
    · by_cases h1 : k9 < W1.length
      · rw [List.getElem?_append_left h1] at hx
        exact hD1.2 k9 x hx
      · rw [List.getElem?_append_right (by omega)] at hx
        have := hr _ _ hx
        exact hA _ (by have := hS.1; omega)
  have hAr : ArrOfT s cA (.array ty) := fun N9 z9 => by
    obtain ⟨-, k9, hk9, cm9, hkk9⟩ := (hO 0 0 0).1
    exact ⟨(fun q hq => by cases hq), k9, hk9, cm9, hkk9⟩
  have hK2 : va_K D cl (tys ++ [(cA, .array ty)]) s := ⟨hK.1, fun k9 x hx => by
    by_cases hl : k9 < tys.length
    · rw [List.getElem?_append_left hl] at hx
      exact hK.2 k9 x hx
    · rw [List.getElem?_append_right (by omega)] at hx
      have h0 : k9 - tys.length < 1 := (List.getElem?_eq_some_iff.mp hx).1
      rw [show k9 - tys.length = 0 by omega] at hx
      cases hx
      exact ⟨hAr, fA⟩⟩
  obtain ⟨t, a1, b1⟩ := kk H.size (fun i => H.size + 1 + i) cA F.heap (fun i j _ _ h => by have h9 : H.size + 1 + i = H.size + 1 + j := h; omega) hnl hK2 (by rw [← vr_rows hnm]; exact vr_lay hP2) (by rw [← vr_rows hnm]; exact vr_layD hD2) ⟨by rw [f1]; have := hS.1; omega, fun x h1 h2 => (hold x (Nat.lt_of_lt_of_le h1 hS.1)).trans (hS.2.1 x h1 h2), hS.2.2⟩ F rfl X'
  refine ⟨t, step t ?_, b1⟩
  have e : T.heap.size = H.size := by rw [hT]
  rw [e]
  exact a1
end VGM
/-! ===== END ===== -/

/-! ===== BEGIN printed: names, fields, word lists, decode rows ===== -/
def RX0 : String := "OrphanWave$Books"
def TX0 : u_T := fun k => match k with
  | 0 => ("OrphanWave$Books", "cells", "[I", true)
  | 1 => ("OrphanWave$Books", "froms", "[I", true)
  | 2 => ("OrphanWave$Books", "tos", "[I", true)
  | 3 => ("OrphanWave$Books", "lows", "[I", true)
  | 4 => ("OrphanWave$Books", "highs", "[I", true)
  | _ => ("OrphanWave$Books", "count", "I", false)
def tyX0 : Nat → FieldType := fun k => match k with
  | 0 => .array .int
  | 1 => .array .int
  | 2 => .array .int
  | 3 => .array .int
  | 4 => .array .int
  | _ => .int
abbrev wsX00 : List Cond := u_ws RX0 TX0 6
theorem nmX0 : ∀ a, a < 6 → ∀ b, b < 6 → a ≠ b → (TX0 a).2.1 ≠ (TX0 b).2.1 := by decide +kernel
theorem tyX0_ok : ∀ k, k < 6 → parseFieldDescriptor (TX0 k).2.2.1 = some (tyX0 k) := by decide +kernel
abbrev cX0_init : ByteArray := prog_2_method_1_code
def yX0_init : MethodName := ⟨RX0, "<init>", "()V"⟩
abbrev cX0_add : ByteArray := prog_2_method_2_code
def yX0_add : MethodName := ⟨RX0, "add", "(IIIII)I"⟩
abbrev cX0_become : ByteArray := prog_2_method_3_code
def yX0_become : MethodName := ⟨RX0, "become", "(LOrphanWave$Books;)V"⟩
def RX1 : String := "OrphanWave$Calendar"
def TX1 : u_T := fun k => match k with
  | 0 => ("OrphanWave$Calendar", "lengths", "[[I", true)
  | 1 => ("OrphanWave$Calendar", "months", "[I", true)
  | _ => ("OrphanWave$Calendar", "years", "I", false)
def tyX1 : Nat → FieldType := fun k => match k with
  | 0 => .array (.array .int)
  | 1 => .array .int
  | _ => .int
abbrev wsX10 : List Cond := u_ws RX1 TX1 3
theorem nmX1 : ∀ a, a < 3 → ∀ b, b < 3 → a ≠ b → (TX1 a).2.1 ≠ (TX1 b).2.1 := by decide +kernel
theorem tyX1_ok : ∀ k, k < 3 → parseFieldDescriptor (TX1 k).2.2.1 = some (tyX1 k) := by decide +kernel
abbrev cX1_init : ByteArray := prog_3_method_1_code
def yX1_init : MethodName := ⟨RX1, "<init>", "()V"⟩
abbrev cX1_become : ByteArray := prog_3_method_2_code
def yX1_become : MethodName := ⟨RX1, "become", "(LOrphanWave$Text;)I"⟩
abbrev cX1_endsYear : ByteArray := prog_3_method_3_code
def yX1_endsYear : MethodName := ⟨RX1, "endsYear", "(I)Z"⟩
abbrev cX1_takesMonth : ByteArray := prog_3_method_4_code
def yX1_takesMonth : MethodName := ⟨RX1, "takesMonth", "(II)Z"⟩
abbrev cX1_lengthAt : ByteArray := prog_3_method_5_code
def yX1_lengthAt : MethodName := ⟨RX1, "lengthAt", "(LOrphanWave$Text;II)I"⟩
abbrev cX1_hasDay : ByteArray := prog_3_method_6_code
def yX1_hasDay : MethodName := ⟨RX1, "hasDay", "(III)Z"⟩
abbrev cX1_daysAhead : ByteArray := prog_3_method_7_code
def yX1_daysAhead : MethodName := ⟨RX1, "daysAhead", "(III)I"⟩
abbrev cX1_allDays : ByteArray := prog_3_method_8_code
def yX1_allDays : MethodName := ⟨RX1, "allDays", "()I"⟩
abbrev cX1_partOfDay : ByteArray := prog_3_method_9_code
def yX1_partOfDay : MethodName := ⟨RX1, "partOfDay", "(II)I"⟩
abbrev cX1_daysOf : ByteArray := prog_3_method_10_code
def yX1_daysOf : MethodName := ⟨RX1, "daysOf", "(II)I"⟩
def RX2 : String := "OrphanWave$Findings"
def TX2 : u_T := fun k => match k with
  | 0 => ("OrphanWave$Findings", "books", "LOrphanWave$Books;", true)
  | 1 => ("OrphanWave$Findings", "sheets", "LOrphanWave$Sheets;", true)
  | 2 => ("OrphanWave$Findings", "known", "LOrphanWave$KnownSlips;", true)
  | 3 => ("OrphanWave$Findings", "weights", "[J", true)
  | 4 => ("OrphanWave$Findings", "dugMarshes", "I", false)
  | _ => ("OrphanWave$Findings", "kept", "Z", false)
def tyX2 : Nat → FieldType := fun k => match k with
  | 0 => .object "OrphanWave$Books"
  | 1 => .object "OrphanWave$Sheets"
  | 2 => .object "OrphanWave$KnownSlips"
  | 3 => .array .long
  | 4 => .int
  | _ => .boolean
abbrev wsX20 : List Cond := u_ws RX2 TX2 6
theorem nmX2 : ∀ a, a < 6 → ∀ b, b < 6 → a ≠ b → (TX2 a).2.1 ≠ (TX2 b).2.1 := by decide +kernel
theorem tyX2_ok : ∀ k, k < 6 → parseFieldDescriptor (TX2 k).2.2.1 = some (tyX2 k) := by decide +kernel
abbrev cX2_init : ByteArray := prog_4_method_1_code
def yX2_init : MethodName := ⟨RX2, "<init>", "()V"⟩
abbrev cX2_become : ByteArray := prog_4_method_2_code
def yX2_become : MethodName := ⟨RX2, "become", "(LOrphanWave$Findings;)V"⟩
abbrev cX2_isDug : ByteArray := prog_4_method_3_code
def yX2_isDug : MethodName := ⟨RX2, "isDug", "(I)Z"⟩
abbrev cX2_dugCount : ByteArray := prog_4_method_4_code
def yX2_dugCount : MethodName := ⟨RX2, "dugCount", "()I"⟩
def RX3 : String := "OrphanWave$KnownSlips"
def TX3 : u_T := fun k => match k with
  | 0 => ("OrphanWave$KnownSlips", "years", "[I", true)
  | _ => ("OrphanWave$KnownSlips", "count", "I", false)
def tyX3 : Nat → FieldType := fun k => match k with
  | 0 => .array .int
  | _ => .int
abbrev wsX30 : List Cond := u_ws RX3 TX3 2
theorem nmX3 : ∀ a, a < 2 → ∀ b, b < 2 → a ≠ b → (TX3 a).2.1 ≠ (TX3 b).2.1 := by decide +kernel
theorem tyX3_ok : ∀ k, k < 2 → parseFieldDescriptor (TX3 k).2.2.1 = some (tyX3 k) := by decide +kernel
abbrev cX3_init : ByteArray := prog_5_method_1_code
def yX3_init : MethodName := ⟨RX3, "<init>", "()V"⟩
abbrev cX3_isLater : ByteArray := prog_5_method_2_code
def yX3_isLater : MethodName := ⟨RX3, "isLater", "(I)Z"⟩
abbrev cX3_add : ByteArray := prog_5_method_3_code
def yX3_add : MethodName := ⟨RX3, "add", "(I)I"⟩
abbrev cX3_become : ByteArray := prog_5_method_4_code
def yX3_become : MethodName := ⟨RX3, "become", "(LOrphanWave$KnownSlips;)V"⟩
abbrev cX3_outlook : ByteArray := prog_5_method_5_code
def yX3_outlook : MethodName := ⟨RX3, "outlook", "(III)I"⟩
abbrev cX3_gapsAbove : ByteArray := prog_5_method_6_code
def yX3_gapsAbove : MethodName := ⟨RX3, "gapsAbove", "(I)I"⟩
abbrev cX3_evenness : ByteArray := prog_5_method_7_code
def yX3_evenness : MethodName := ⟨RX3, "evenness", "()I"⟩
def RX4 : String := "OrphanWave$Ocean"
def TX4 : u_T := fun k => match k with
  | 0 => ("OrphanWave$Ocean", "depths", "[I", true)
  | 1 => ("OrphanWave$Ocean", "figures", "[I", true)
  | 2 => ("OrphanWave$Ocean", "times", "[I", true)
  | 3 => ("OrphanWave$Ocean", "pace", "I", false)
  | _ => ("OrphanWave$Ocean", "fade", "I", false)
def tyX4 : Nat → FieldType := fun k => match k with
  | 0 => .array .int
  | 1 => .array .int
  | 2 => .array .int
  | 3 => .int
  | _ => .int
abbrev wsX40 : List Cond := u_ws RX4 TX4 5
theorem nmX4 : ∀ a, a < 5 → ∀ b, b < 5 → a ≠ b → (TX4 a).2.1 ≠ (TX4 b).2.1 := by decide +kernel
theorem tyX4_ok : ∀ k, k < 5 → parseFieldDescriptor (TX4 k).2.2.1 = some (tyX4 k) := by decide +kernel
abbrev cX4_init : ByteArray := prog_6_method_1_code
def yX4_init : MethodName := ⟨RX4, "<init>", "()V"⟩
abbrev cX4_isSea : ByteArray := prog_6_method_2_code
def yX4_isSea : MethodName := ⟨RX4, "isSea", "(I)Z"⟩
abbrev cX4_seaCells : ByteArray := prog_6_method_3_code
def yX4_seaCells : MethodName := ⟨RX4, "seaCells", "()I"⟩
abbrev cX4_become : ByteArray := prog_6_method_4_code
def yX4_become : MethodName := ⟨RX4, "become", "(LOrphanWave$Text;)I"⟩
abbrev cX4_read : ByteArray := prog_6_method_5_code
def yX4_read : MethodName := ⟨RX4, "read", "(LOrphanWave$Text;)I"⟩
abbrev cX4_travel : ByteArray := prog_6_method_6_code
def yX4_travel : MethodName := ⟨RX4, "travel", "(II)I"⟩
abbrev cX4_soonest : ByteArray := prog_6_method_7_code
def yX4_soonest : MethodName := ⟨RX4, "soonest", "(IJ)I"⟩
abbrev cX4_swell : ByteArray := prog_6_method_8_code
def yX4_swell : MethodName := ⟨RX4, "swell", "(III)I"⟩
abbrev cX4_measureTo : ByteArray := prog_6_method_9_code
def yX4_measureTo : MethodName := ⟨RX4, "measureTo", "(I[I)V"⟩
abbrev cX4_sweep : ByteArray := prog_6_method_10_code
def yX4_sweep : MethodName := ⟨RX4, "sweep", "([I)Z"⟩
abbrev cX4_shorten : ByteArray := prog_6_method_11_code
def yX4_shorten : MethodName := ⟨RX4, "shorten", "([III)Z"⟩
def RX5 : String := "OrphanWave$Search"
def TX5 : u_T := fun k => match k with
  | 0 => ("OrphanWave$Search", "ocean", "LOrphanWave$Ocean;", true)
  | 1 => ("OrphanWave$Search", "books", "LOrphanWave$Books;", true)
  | _ => ("OrphanWave$Search", "times", "[[I", true)
def tyX5 : Nat → FieldType := fun k => match k with
  | 0 => .object "OrphanWave$Ocean"
  | 1 => .object "OrphanWave$Books"
  | _ => .array (.array .int)
abbrev wsX50 : List Cond := u_ws RX5 TX5 3
theorem nmX5 : ∀ a, a < 3 → ∀ b, b < 3 → a ≠ b → (TX5 a).2.1 ≠ (TX5 b).2.1 := by decide +kernel
theorem tyX5_ok : ∀ k, k < 3 → parseFieldDescriptor (TX5 k).2.2.1 = some (tyX5 k) := by decide +kernel
abbrev cX5_init : ByteArray := prog_7_method_1_code
def yX5_init : MethodName := ⟨RX5, "<init>", "(LOrphanWave$Ocean;LOrphanWave$Books;)V"⟩
abbrev cX5_measure : ByteArray := prog_7_method_2_code
def yX5_measure : MethodName := ⟨RX5, "measure", "()V"⟩
abbrev cX5_earliestBegin : ByteArray := prog_7_method_3_code
def yX5_earliestBegin : MethodName := ⟨RX5, "earliestBegin", "(I)I"⟩
abbrev cX5_latestBegin : ByteArray := prog_7_method_4_code
def yX5_latestBegin : MethodName := ⟨RX5, "latestBegin", "(I)I"⟩
abbrev cX5_beginsOf : ByteArray := prog_7_method_5_code
def yX5_beginsOf : MethodName := ⟨RX5, "beginsOf", "(II)I"⟩
abbrev cX5_waysOf : ByteArray := prog_7_method_6_code
def yX5_waysOf : MethodName := ⟨RX5, "waysOf", "(I)I"⟩
abbrev cX5_allWays : ByteArray := prog_7_method_7_code
def yX5_allWays : MethodName := ⟨RX5, "allWays", "()I"⟩
abbrev cX5_likeliestCell : ByteArray := prog_7_method_8_code
def yX5_likeliestCell : MethodName := ⟨RX5, "likeliestCell", "()I"⟩
abbrev cX5_leastSize : ByteArray := prog_7_method_9_code
def yX5_leastSize : MethodName := ⟨RX5, "leastSize", "(I)I"⟩
abbrev cX5_greatestSize : ByteArray := prog_7_method_10_code
def yX5_greatestSize : MethodName := ⟨RX5, "greatestSize", "(I)I"⟩
abbrev cX5_beginsByHours : ByteArray := prog_7_method_11_code
def yX5_beginsByHours : MethodName := ⟨RX5, "beginsByHours", "(I)I"⟩
abbrev cX5_comesToAll : ByteArray := prog_7_method_12_code
def yX5_comesToAll : MethodName := ⟨RX5, "comesToAll", "(I)Z"⟩
abbrev cX5_heightsFit : ByteArray := prog_7_method_13_code
def yX5_heightsFit : MethodName := ⟨RX5, "heightsFit", "(II)Z"⟩
def RX6 : String := "OrphanWave$Sheets"
def TX6 : u_T := fun k => match k with
  | 0 => ("OrphanWave$Sheets", "marshes", "[I", true)
  | 1 => ("OrphanWave$Sheets", "olds", "[I", true)
  | 2 => ("OrphanWave$Sheets", "youngs", "[I", true)
  | _ => ("OrphanWave$Sheets", "count", "I", false)
def tyX6 : Nat → FieldType := fun k => match k with
  | 0 => .array .int
  | 1 => .array .int
  | 2 => .array .int
  | _ => .int
abbrev wsX60 : List Cond := u_ws RX6 TX6 4
theorem nmX6 : ∀ a, a < 4 → ∀ b, b < 4 → a ≠ b → (TX6 a).2.1 ≠ (TX6 b).2.1 := by decide +kernel
theorem tyX6_ok : ∀ k, k < 4 → parseFieldDescriptor (TX6 k).2.2.1 = some (tyX6 k) := by decide +kernel
abbrev cX6_init : ByteArray := prog_8_method_1_code
def yX6_init : MethodName := ⟨RX6, "<init>", "()V"⟩
abbrev cX6_add : ByteArray := prog_8_method_2_code
def yX6_add : MethodName := ⟨RX6, "add", "(III)I"⟩
abbrev cX6_become : ByteArray := prog_8_method_3_code
def yX6_become : MethodName := ⟨RX6, "become", "(LOrphanWave$Sheets;)V"⟩
abbrev cX6_all : ByteArray := prog_8_method_4_code
def yX6_all : MethodName := ⟨RX6, "all", "()I"⟩
abbrev cX6_firstShared : ByteArray := prog_8_method_5_code
def yX6_firstShared : MethodName := ⟨RX6, "firstShared", "(I)I"⟩
abbrev cX6_lastShared : ByteArray := prog_8_method_6_code
def yX6_lastShared : MethodName := ⟨RX6, "lastShared", "(I)I"⟩
abbrev cX6_sheetsAt : ByteArray := prog_8_method_7_code
def yX6_sheetsAt : MethodName := ⟨RX6, "sheetsAt", "(I)I"⟩
abbrev cX6_marshesOf : ByteArray := prog_8_method_8_code
def yX6_marshesOf : MethodName := ⟨RX6, "marshesOf", "(I)I"⟩
abbrev cX6_marshesAt : ByteArray := prog_8_method_9_code
def yX6_marshesAt : MethodName := ⟨RX6, "marshesAt", "(I)I"⟩
abbrev cX6_fewestYears : ByteArray := prog_8_method_10_code
def yX6_fewestYears : MethodName := ⟨RX6, "fewestYears", "()I"⟩
abbrev cX6_mostOfOneMarsh : ByteArray := prog_8_method_11_code
def yX6_mostOfOneMarsh : MethodName := ⟨RX6, "mostOfOneMarsh", "()I"⟩
abbrev cX6_widestYear : ByteArray := prog_8_method_12_code
def yX6_widestYear : MethodName := ⟨RX6, "widestYear", "()I"⟩
abbrev cX6_companions : ByteArray := prog_8_method_13_code
def yX6_companions : MethodName := ⟨RX6, "companions", "(I)I"⟩
def RX7 : String := "OrphanWave$Signs"
def TX7 : u_T := fun k => match k with
  | 0 => ("OrphanWave$Signs", "found", "LOrphanWave$Findings;", true)
  | _ => ("OrphanWave$Signs", "trace", "J", false)
def tyX7 : Nat → FieldType := fun k => match k with
  | 0 => .object "OrphanWave$Findings"
  | _ => .long
abbrev wsX70 : List Cond := u_ws RX7 TX7 2
theorem nmX7 : ∀ a, a < 2 → ∀ b, b < 2 → a ≠ b → (TX7 a).2.1 ≠ (TX7 b).2.1 := by decide +kernel
theorem tyX7_ok : ∀ k, k < 2 → parseFieldDescriptor (TX7 k).2.2.1 = some (tyX7 k) := by decide +kernel
abbrev cX7_init : ByteArray := prog_9_method_1_code
def yX7_init : MethodName := ⟨RX7, "<init>", "(LOrphanWave$Findings;)V"⟩
abbrev cX7_asSign : ByteArray := prog_9_method_2_code
def yX7_asSign : MethodName := ⟨RX7, "asSign", "(I)I"⟩
abbrev cX7_asSheet : ByteArray := prog_9_method_3_code
def yX7_asSheet : MethodName := ⟨RX7, "asSheet", "(I)I"⟩
abbrev cX7_asWritten : ByteArray := prog_9_method_4_code
def yX7_asWritten : MethodName := ⟨RX7, "asWritten", "(I)I"⟩
abbrev cX7_asSlid : ByteArray := prog_9_method_5_code
def yX7_asSlid : MethodName := ⟨RX7, "asSlid", "(I)I"⟩
abbrev cX7_asTold : ByteArray := prog_9_method_6_code
def yX7_asTold : MethodName := ⟨RX7, "asTold", "(I)I"⟩
abbrev cX7_asAged : ByteArray := prog_9_method_7_code
def yX7_asAged : MethodName := ⟨RX7, "asAged", "(I)I"⟩
def RX8 : String := "OrphanWave$Stories"
def TX8 : u_T := fun k => match k with
  | 0 => ("OrphanWave$Stories", "found", "LOrphanWave$Findings;", true)
  | 1 => ("OrphanWave$Stories", "chances", "[[I", true)
  | _ => ("OrphanWave$Stories", "behind", "[J", true)
def tyX8 : Nat → FieldType := fun k => match k with
  | 0 => .object "OrphanWave$Findings"
  | 1 => .array (.array .int)
  | _ => .array .long
abbrev wsX80 : List Cond := u_ws RX8 TX8 3
theorem nmX8 : ∀ a, a < 3 → ∀ b, b < 3 → a ≠ b → (TX8 a).2.1 ≠ (TX8 b).2.1 := by decide +kernel
theorem tyX8_ok : ∀ k, k < 3 → parseFieldDescriptor (TX8 k).2.2.1 = some (tyX8 k) := by decide +kernel
abbrev cX8_init : ByteArray := prog_10_method_1_code
def yX8_init : MethodName := ⟨RX8, "<init>", "(LOrphanWave$Findings;)V"⟩
abbrev cX8_weigh : ByteArray := prog_10_method_2_code
def yX8_weigh : MethodName := ⟨RX8, "weigh", "(II)I"⟩
abbrev cX8_settle : ByteArray := prog_10_method_3_code
def yX8_settle : MethodName := ⟨RX8, "settle", "(I)V"⟩
abbrev cX8_weightBehind : ByteArray := prog_10_method_4_code
def yX8_weightBehind : MethodName := ⟨RX8, "weightBehind", "(III)J"⟩
abbrev cX8_greatestBehind : ByteArray := prog_10_method_5_code
def yX8_greatestBehind : MethodName := ⟨RX8, "greatestBehind", "(II)J"⟩
abbrev cX8_bestMarsh : ByteArray := prog_10_method_6_code
def yX8_bestMarsh : MethodName := ⟨RX8, "bestMarsh", "()I"⟩
abbrev cX8_part : ByteArray := prog_10_method_7_code
def yX8_part : MethodName := ⟨RX8, "part", "(II)J"⟩
def RX9 : String := "OrphanWave$Text"
def TX9 : u_T := fun k => match k with
  | 0 => ("OrphanWave$Text", "bytes", "[B", true)
  | _ => ("OrphanWave$Text", "length", "I", false)
def tyX9 : Nat → FieldType := fun k => match k with
  | 0 => .array .byte
  | _ => .int
abbrev wsX90 : List Cond := u_ws RX9 TX9 2
theorem nmX9 : ∀ a, a < 2 → ∀ b, b < 2 → a ≠ b → (TX9 a).2.1 ≠ (TX9 b).2.1 := by decide +kernel
theorem tyX9_ok : ∀ k, k < 2 → parseFieldDescriptor (TX9 k).2.2.1 = some (tyX9 k) := by decide +kernel
abbrev cX9_init : ByteArray := prog_11_method_1_code
def yX9_init : MethodName := ⟨RX9, "<init>", "()V"⟩
abbrev cX9_append : ByteArray := prog_11_method_2_code
def yX9_append : MethodName := ⟨RX9, "append", "(B)V"⟩
abbrev cX9_empty : ByteArray := prog_11_method_3_code
def yX9_empty : MethodName := ⟨RX9, "empty", "()I"⟩
abbrev cX9_byteAt : ByteArray := prog_11_method_4_code
def yX9_byteAt : MethodName := ⟨RX9, "byteAt", "(I)I"⟩
abbrev cX9_isFigure : ByteArray := prog_11_method_5_code
def yX9_isFigure : MethodName := ⟨RX9, "isFigure", "(I)Z"⟩
abbrev cX9_figuresEnd : ByteArray := prog_11_method_6_code
def yX9_figuresEnd : MethodName := ⟨RX9, "figuresEnd", "(I)I"⟩
def RX10 : String := "OrphanWave$Trees"
def TX10 : u_T := fun k => match k with
  | 0 => ("OrphanWave$Trees", "livingRings", "[I", true)
  | 1 => ("OrphanWave$Trees", "woodRings", "[[I", true)
  | 2 => ("OrphanWave$Trees", "woodCounts", "[I", true)
  | 3 => ("OrphanWave$Trees", "ends", "[I", true)
  | 4 => ("OrphanWave$Trees", "livingCount", "I", false)
  | _ => ("OrphanWave$Trees", "firstYear", "I", false)
def tyX10 : Nat → FieldType := fun k => match k with
  | 0 => .array .int
  | 1 => .array (.array .int)
  | 2 => .array .int
  | 3 => .array .int
  | 4 => .int
  | _ => .int
abbrev wsX100 : List Cond := u_ws RX10 TX10 6
theorem nmX10 : ∀ a, a < 6 → ∀ b, b < 6 → a ≠ b → (TX10 a).2.1 ≠ (TX10 b).2.1 := by decide +kernel
theorem tyX10_ok : ∀ k, k < 6 → parseFieldDescriptor (TX10 k).2.2.1 = some (tyX10 k) := by decide +kernel
abbrev cX10_init : ByteArray := prog_12_method_1_code
def yX10_init : MethodName := ⟨RX10, "<init>", "()V"⟩
abbrev cX10_grow : ByteArray := prog_12_method_2_code
def yX10_grow : MethodName := ⟨RX10, "grow", "(I)I"⟩
abbrev cX10_plant : ByteArray := prog_12_method_3_code
def yX10_plant : MethodName := ⟨RX10, "plant", "(I)I"⟩
abbrev cX10_growWood : ByteArray := prog_12_method_4_code
def yX10_growWood : MethodName := ⟨RX10, "growWood", "(II)I"⟩
abbrev cX10_startWood : ByteArray := prog_12_method_5_code
def yX10_startWood : MethodName := ⟨RX10, "startWood", "(II)I"⟩
abbrev cX10_lies : ByteArray := prog_12_method_6_code
def yX10_lies : MethodName := ⟨RX10, "lies", "(II)Z"⟩
abbrev cX10_likeness : ByteArray := prog_12_method_7_code
def yX10_likeness : MethodName := ⟨RX10, "likeness", "(II)I"⟩
abbrev cX10_laidOn : ByteArray := prog_12_method_8_code
def yX10_laidOn : MethodName := ⟨RX10, "laidOn", "(I)I"⟩
abbrev cX10_lastYear : ByteArray := prog_12_method_9_code
def yX10_lastYear : MethodName := ⟨RX10, "lastYear", "(II)I"⟩
abbrev cX10_sharedDeath : ByteArray := prog_12_method_10_code
def yX10_sharedDeath : MethodName := ⟨RX10, "sharedDeath", "()I"⟩
def RX11 : String := "OrphanWave"
def TX11 : u_T := fun k => match k with
  | 0 => ("OrphanWave", "text", "LOrphanWave$Text;", true)
  | 1 => ("OrphanWave", "ocean", "LOrphanWave$Ocean;", true)
  | 2 => ("OrphanWave", "trees", "LOrphanWave$Trees;", true)
  | 3 => ("OrphanWave", "found", "LOrphanWave$Findings;", true)
  | 4 => ("OrphanWave", "images", "[LOrphanWave$Findings;", true)
  | 5 => ("OrphanWave", "search", "LOrphanWave$Search;", true)
  | 6 => ("OrphanWave", "stories", "LOrphanWave$Stories;", true)
  | 7 => ("OrphanWave", "signs", "LOrphanWave$Signs;", true)
  | 8 => ("OrphanWave", "calendar", "LOrphanWave$Calendar;", false)
  | 9 => ("OrphanWave", "draft", "LOrphanWave$Calendar;", false)
  | _ => ("OrphanWave", "yearOfNow", "I", false)
def tyX11 : Nat → FieldType := fun k => match k with
  | 0 => .object "OrphanWave$Text"
  | 1 => .object "OrphanWave$Ocean"
  | 2 => .object "OrphanWave$Trees"
  | 3 => .object "OrphanWave$Findings"
  | 4 => .array (.object "OrphanWave$Findings")
  | 5 => .object "OrphanWave$Search"
  | 6 => .object "OrphanWave$Stories"
  | 7 => .object "OrphanWave$Signs"
  | 8 => .object "OrphanWave$Calendar"
  | 9 => .object "OrphanWave$Calendar"
  | _ => .int
abbrev wsX110 : List Cond := u_ws RX11 TX11 11
theorem nmX11 : ∀ a, a < 11 → ∀ b, b < 11 → a ≠ b → (TX11 a).2.1 ≠ (TX11 b).2.1 := by decide +kernel
theorem tyX11_ok : ∀ k, k < 11 → parseFieldDescriptor (TX11 k).2.2.1 = some (tyX11 k) := by decide +kernel
abbrev cX11_init : ByteArray := prog_1_method_1_code
def yX11_init : MethodName := ⟨RX11, "<init>", "()V"⟩
abbrev cX11_type : ByteArray := prog_1_method_2_code
def yX11_type : MethodName := ⟨RX11, "type", "(JI)I"⟩
abbrev cX11_clear : ByteArray := prog_1_method_3_code
def yX11_clear : MethodName := ⟨RX11, "clear", "()I"⟩
abbrev cX11_ocean : ByteArray := prog_1_method_4_code
def yX11_ocean : MethodName := ⟨RX11, "ocean", "()I"⟩
abbrev cX11_depth : ByteArray := prog_1_method_5_code
def yX11_depth : MethodName := ⟨RX11, "depth", "(I)I"⟩
abbrev cX11_tune : ByteArray := prog_1_method_6_code
def yX11_tune : MethodName := ⟨RX11, "tune", "(II)I"⟩
abbrev cX11_time : ByteArray := prog_1_method_7_code
def yX11_time : MethodName := ⟨RX11, "time", "(II)I"⟩
abbrev cX11_height : ByteArray := prog_1_method_8_code
def yX11_height : MethodName := ⟨RX11, "height", "(III)I"⟩
abbrev cX11_book : ByteArray := prog_1_method_9_code
def yX11_book : MethodName := ⟨RX11, "book", "(IIIII)I"⟩
abbrev cX11_begins : ByteArray := prog_1_method_10_code
def yX11_begins : MethodName := ⟨RX11, "begins", "(II)I"⟩
abbrev cX11_ways : ByteArray := prog_1_method_11_code
def yX11_ways : MethodName := ⟨RX11, "ways", "(I)I"⟩
abbrev cX11_whence : ByteArray := prog_1_method_12_code
def yX11_whence : MethodName := ⟨RX11, "whence", "(I)I"⟩
abbrev cX11_calendar : ByteArray := prog_1_method_13_code
def yX11_calendar : MethodName := ⟨RX11, "calendar", "()I"⟩
abbrev cX11_clock : ByteArray := prog_1_method_14_code
def yX11_clock : MethodName := ⟨RX11, "clock", "(IIII)I"⟩
abbrev cX11_told : ByteArray := prog_1_method_15_code
def yX11_told : MethodName := ⟨RX11, "told", "(II)I"⟩
abbrev cX11_ring : ByteArray := prog_1_method_16_code
def yX11_ring : MethodName := ⟨RX11, "ring", "(I)I"⟩
abbrev cX11_living : ByteArray := prog_1_method_17_code
def yX11_living : MethodName := ⟨RX11, "living", "(I)I"⟩
abbrev cX11_wood : ByteArray := prog_1_method_18_code
def yX11_wood : MethodName := ⟨RX11, "wood", "(II)I"⟩
abbrev cX11_felled : ByteArray := prog_1_method_19_code
def yX11_felled : MethodName := ⟨RX11, "felled", "(II)I"⟩
abbrev cX11_like : ByteArray := prog_1_method_20_code
def yX11_like : MethodName := ⟨RX11, "like", "(II)I"⟩
abbrev cX11_died : ByteArray := prog_1_method_21_code
def yX11_died : MethodName := ⟨RX11, "died", "(II)I"⟩
abbrev cX11_alike : ByteArray := prog_1_method_22_code
def yX11_alike : MethodName := ⟨RX11, "alike", "()I"⟩
abbrev cX11_sheet : ByteArray := prog_1_method_23_code
def yX11_sheet : MethodName := ⟨RX11, "sheet", "(III)I"⟩
abbrev cX11_together : ByteArray := prog_1_method_24_code
def yX11_together : MethodName := ⟨RX11, "together", "(II)I"⟩
abbrev cX11_slips : ByteArray := prog_1_method_25_code
def yX11_slips : MethodName := ⟨RX11, "slips", "()I"⟩
abbrev cX11_joined : ByteArray := prog_1_method_26_code
def yX11_joined : MethodName := ⟨RX11, "joined", "(I)I"⟩
abbrev cX11_whole : ByteArray := prog_1_method_27_code
def yX11_whole : MethodName := ⟨RX11, "whole", "(I)I"⟩
abbrev cX11_tale : ByteArray := prog_1_method_28_code
def yX11_tale : MethodName := ⟨RX11, "tale", "(IIIII)I"⟩
abbrev cX11_known : ByteArray := prog_1_method_29_code
def yX11_known : MethodName := ⟨RX11, "known", "(I)I"⟩
abbrev cX11_next : ByteArray := prog_1_method_30_code
def yX11_next : MethodName := ⟨RX11, "next", "(II)I"⟩
abbrev cX11_even : ByteArray := prog_1_method_31_code
def yX11_even : MethodName := ⟨RX11, "even", "()I"⟩
abbrev cX11_story : ByteArray := prog_1_method_32_code
def yX11_story : MethodName := ⟨RX11, "story", "(II)J"⟩
abbrev cX11_chance : ByteArray := prog_1_method_33_code
def yX11_chance : MethodName := ⟨RX11, "chance", "(III)I"⟩
abbrev cX11_dug : ByteArray := prog_1_method_34_code
def yX11_dug : MethodName := ⟨RX11, "dug", "(II)I"⟩
abbrev cX11_believed : ByteArray := prog_1_method_35_code
def yX11_believed : MethodName := ⟨RX11, "believed", "(II)J"⟩
abbrev cX11_dig : ByteArray := prog_1_method_36_code
def yX11_dig : MethodName := ⟨RX11, "dig", "()I"⟩
abbrev cX11_minutes : ByteArray := prog_1_method_37_code
def yX11_minutes : MethodName := ⟨RX11, "minutes", "(III)I"⟩
abbrev cX11_trust : ByteArray := prog_1_method_38_code
def yX11_trust : MethodName := ⟨RX11, "trust", "(II)I"⟩
abbrev cX11_keep : ByteArray := prog_1_method_39_code
def yX11_keep : MethodName := ⟨RX11, "keep", "(I)I"⟩
abbrev cX11_back : ByteArray := prog_1_method_40_code
def yX11_back : MethodName := ⟨RX11, "back", "(I)I"⟩
abbrev cX11_count : ByteArray := prog_1_method_41_code
def yX11_count : MethodName := ⟨RX11, "count", "(I)I"⟩
abbrev cX11_trace : ByteArray := prog_1_method_42_code
def yX11_trace : MethodName := ⟨RX11, "trace", "()J"⟩
abbrev cX11_within : ByteArray := prog_1_method_43_code
def yX11_within : MethodName := ⟨RX11, "within", "(III)Z"⟩
abbrev cX11_isSpan : ByteArray := prog_1_method_44_code
def yX11_isSpan : MethodName := ⟨RX11, "isSpan", "(IIII)Z"⟩
abbrev cX11_isCell : ByteArray := prog_1_method_45_code
def yX11_isCell : MethodName := ⟨RX11, "isCell", "(I)Z"⟩
abbrev cX11_isSize : ByteArray := prog_1_method_46_code
def yX11_isSize : MethodName := ⟨RX11, "isSize", "(I)Z"⟩
abbrev cX11_isYear : ByteArray := prog_1_method_47_code
def yX11_isYear : MethodName := ⟨RX11, "isYear", "(I)Z"⟩
abbrev cX11_isWood : ByteArray := prog_1_method_48_code
def yX11_isWood : MethodName := ⟨RX11, "isWood", "(I)Z"⟩
abbrev cX11_isWidth : ByteArray := prog_1_method_49_code
def yX11_isWidth : MethodName := ⟨RX11, "isWidth", "(I)Z"⟩
abbrev cX11_isMarsh : ByteArray := prog_1_method_50_code
def yX11_isMarsh : MethodName := ⟨RX11, "isMarsh", "(I)Z"⟩
abbrev cX11_isStory : ByteArray := prog_1_method_51_code
def yX11_isStory : MethodName := ⟨RX11, "isStory", "(I)Z"⟩
abbrev cX11_isImage : ByteArray := prog_1_method_52_code
def yX11_isImage : MethodName := ⟨RX11, "isImage", "(I)Z"⟩
abbrev cX11_isBit : ByteArray := prog_1_method_53_code
def yX11_isBit : MethodName := ⟨RX11, "isBit", "(I)Z"⟩
abbrev cX11_commonPart : ByteArray := prog_1_method_54_code
def yX11_commonPart : MethodName := ⟨RX11, "commonPart", "(JJ)J"⟩
def RX12 : String := "OrphanWaveModel"
def TX12 : u_T := fun k => match k with
  | 0 => ("OrphanWaveModel", "trace", "J", false)
  | 1 => ("OrphanWaveModel", "text", "[B", true)
  | 2 => ("OrphanWaveModel", "typed", "I", false)
  | 3 => ("OrphanWaveModel", "depths", "[I", true)
  | 4 => ("OrphanWaveModel", "tune", "[I", true)
  | 5 => ("OrphanWaveModel", "far", "[I", true)
  | 6 => ("OrphanWaveModel", "books", "[I", true)
  | 7 => ("OrphanWaveModel", "told", "[I", true)
  | 8 => ("OrphanWaveModel", "earliest", "I", false)
  | 9 => ("OrphanWaveModel", "latest", "I", false)
  | 10 => ("OrphanWaveModel", "years", "[I", true)
  | 11 => ("OrphanWaveModel", "months", "[I", true)
  | 12 => ("OrphanWaveModel", "firstYear", "I", false)
  | 13 => ("OrphanWaveModel", "rings", "I", false)
  | 14 => ("OrphanWaveModel", "ring", "[I", true)
  | 15 => ("OrphanWaveModel", "woods", "[I", true)
  | 16 => ("OrphanWaveModel", "ends", "[I", true)
  | 17 => ("OrphanWaveModel", "wood", "[I", true)
  | 18 => ("OrphanWaveModel", "sheets", "[I", true)
  | 19 => ("OrphanWaveModel", "marsh", "[I", true)
  | 20 => ("OrphanWaveModel", "oldest", "[I", true)
  | 21 => ("OrphanWaveModel", "youngest", "[I", true)
  | 22 => ("OrphanWaveModel", "knowns", "[I", true)
  | 23 => ("OrphanWaveModel", "known", "[I", true)
  | 24 => ("OrphanWaveModel", "weight", "[J", true)
  | 25 => ("OrphanWaveModel", "chance", "[I", true)
  | 26 => ("OrphanWaveModel", "digs", "[I", true)
  | 27 => ("OrphanWaveModel", "draft", "[J", true)
  | _ => ("OrphanWaveModel", "isKept", "[Z", true)
def tyX12 : Nat → FieldType := fun k => match k with
  | 0 => .long
  | 1 => .array .byte
  | 2 => .int
  | 3 => .array .int
  | 4 => .array .int
  | 5 => .array .int
  | 6 => .array .int
  | 7 => .array .int
  | 8 => .int
  | 9 => .int
  | 10 => .array .int
  | 11 => .array .int
  | 12 => .int
  | 13 => .int
  | 14 => .array .int
  | 15 => .array .int
  | 16 => .array .int
  | 17 => .array .int
  | 18 => .array .int
  | 19 => .array .int
  | 20 => .array .int
  | 21 => .array .int
  | 22 => .array .int
  | 23 => .array .int
  | 24 => .array .long
  | 25 => .array .int
  | 26 => .array .int
  | 27 => .array .long
  | _ => .array .boolean
abbrev wsX120 : List Cond := u_ws RX12 TX12 29
theorem nmX12 : ∀ a, a < 29 → ∀ b, b < 29 → a ≠ b → (TX12 a).2.1 ≠ (TX12 b).2.1 := by decide +kernel
theorem tyX12_ok : ∀ k, k < 29 → parseFieldDescriptor (TX12 k).2.2.1 = some (tyX12 k) := by decide +kernel
abbrev cX12_init : ByteArray := prog_14_method_1_code
def yX12_init : MethodName := ⟨RX12, "<init>", "()V"⟩
abbrev cX12_in : ByteArray := prog_14_method_3_code
def yX12_in : MethodName := ⟨RX12, "in", "(III)Z"⟩
abbrev cX12_type : ByteArray := prog_14_method_4_code
def yX12_type : MethodName := ⟨RX12, "type", "(JI)I"⟩
abbrev cX12_clear : ByteArray := prog_14_method_5_code
def yX12_clear : MethodName := ⟨RX12, "clear", "()I"⟩
abbrev cX12_ocean : ByteArray := prog_14_method_6_code
def yX12_ocean : MethodName := ⟨RX12, "ocean", "()I"⟩
abbrev cX12_sea : ByteArray := prog_14_method_7_code
def yX12_sea : MethodName := ⟨RX12, "sea", "()I"⟩
abbrev cX12_isCell : ByteArray := prog_14_method_8_code
def yX12_isCell : MethodName := ⟨RX12, "isCell", "(I)Z"⟩
abbrev cX12_isSea : ByteArray := prog_14_method_9_code
def yX12_isSea : MethodName := ⟨RX12, "isSea", "(I)Z"⟩
abbrev cX12_depth : ByteArray := prog_14_method_10_code
def yX12_depth : MethodName := ⟨RX12, "depth", "(I)I"⟩
abbrev cX12_tune : ByteArray := prog_14_method_11_code
def yX12_tune : MethodName := ⟨RX12, "tune", "(II)I"⟩
abbrev cX12_into : ByteArray := prog_14_method_12_code
def yX12_into : MethodName := ⟨RX12, "into", "(I)I"⟩
abbrev cX12_spread : ByteArray := prog_14_method_13_code
def yX12_spread : MethodName := ⟨RX12, "spread", "()V"⟩
abbrev cX12_begin : ByteArray := prog_14_method_14_code
def yX12_begin : MethodName := ⟨RX12, "begin", "(I)V"⟩
abbrev cX12_time : ByteArray := prog_14_method_15_code
def yX12_time : MethodName := ⟨RX12, "time", "(II)I"⟩
abbrev cX12_heightAt : ByteArray := prog_14_method_16_code
def yX12_heightAt : MethodName := ⟨RX12, "heightAt", "(II)I"⟩
abbrev cX12_height : ByteArray := prog_14_method_17_code
def yX12_height : MethodName := ⟨RX12, "height", "(III)I"⟩
abbrev cX12_book : ByteArray := prog_14_method_18_code
def yX12_book : MethodName := ⟨RX12, "book", "(IIIII)I"⟩
abbrev cX12_findBegins : ByteArray := prog_14_method_19_code
def yX12_findBegins : MethodName := ⟨RX12, "findBegins", "(I)V"⟩
abbrev cX12_beginsOf : ByteArray := prog_14_method_20_code
def yX12_beginsOf : MethodName := ⟨RX12, "beginsOf", "(I)I"⟩
abbrev cX12_waysOf : ByteArray := prog_14_method_21_code
def yX12_waysOf : MethodName := ⟨RX12, "waysOf", "(I)I"⟩
abbrev cX12_begins : ByteArray := prog_14_method_22_code
def yX12_begins : MethodName := ⟨RX12, "begins", "(II)I"⟩
abbrev cX12_ways : ByteArray := prog_14_method_23_code
def yX12_ways : MethodName := ⟨RX12, "ways", "(I)I"⟩
abbrev cX12_whence : ByteArray := prog_14_method_24_code
def yX12_whence : MethodName := ⟨RX12, "whence", "(I)I"⟩
abbrev cX12_isDigit : ByteArray := prog_14_method_25_code
def yX12_isDigit : MethodName := ⟨RX12, "isDigit", "(I)Z"⟩
abbrev cX12_calendar : ByteArray := prog_14_method_26_code
def yX12_calendar : MethodName := ⟨RX12, "calendar", "()I"⟩
abbrev cX12_clock : ByteArray := prog_14_method_27_code
def yX12_clock : MethodName := ⟨RX12, "clock", "(IIII)I"⟩
abbrev cX12_told : ByteArray := prog_14_method_28_code
def yX12_told : MethodName := ⟨RX12, "told", "(II)I"⟩
abbrev cX12_ring : ByteArray := prog_14_method_29_code
def yX12_ring : MethodName := ⟨RX12, "ring", "(I)I"⟩
abbrev cX12_living : ByteArray := prog_14_method_30_code
def yX12_living : MethodName := ⟨RX12, "living", "(I)I"⟩
abbrev cX12_isWood : ByteArray := prog_14_method_31_code
def yX12_isWood : MethodName := ⟨RX12, "isWood", "(I)Z"⟩
abbrev cX12_wood : ByteArray := prog_14_method_32_code
def yX12_wood : MethodName := ⟨RX12, "wood", "(II)I"⟩
abbrev cX12_felled : ByteArray := prog_14_method_33_code
def yX12_felled : MethodName := ⟨RX12, "felled", "(II)I"⟩
abbrev cX12_likeOf : ByteArray := prog_14_method_34_code
def yX12_likeOf : MethodName := ⟨RX12, "likeOf", "(II)I"⟩
abbrev cX12_like : ByteArray := prog_14_method_35_code
def yX12_like : MethodName := ⟨RX12, "like", "(II)I"⟩
abbrev cX12_laidOf : ByteArray := prog_14_method_36_code
def yX12_laidOf : MethodName := ⟨RX12, "laidOf", "(I)I"⟩
abbrev cX12_died : ByteArray := prog_14_method_37_code
def yX12_died : MethodName := ⟨RX12, "died", "(II)I"⟩
abbrev cX12_alike : ByteArray := prog_14_method_38_code
def yX12_alike : MethodName := ⟨RX12, "alike", "()I"⟩
abbrev cX12_sheet : ByteArray := prog_14_method_39_code
def yX12_sheet : MethodName := ⟨RX12, "sheet", "(III)I"⟩
abbrev cX12_together : ByteArray := prog_14_method_40_code
def yX12_together : MethodName := ⟨RX12, "together", "(II)I"⟩
abbrev cX12_slips : ByteArray := prog_14_method_41_code
def yX12_slips : MethodName := ⟨RX12, "slips", "()I"⟩
abbrev cX12_joinedBy : ByteArray := prog_14_method_42_code
def yX12_joinedBy : MethodName := ⟨RX12, "joinedBy", "(I)I"⟩
abbrev cX12_bitsIn : ByteArray := prog_14_method_43_code
def yX12_bitsIn : MethodName := ⟨RX12, "bitsIn", "(I)I"⟩
abbrev cX12_joined : ByteArray := prog_14_method_44_code
def yX12_joined : MethodName := ⟨RX12, "joined", "(I)I"⟩
abbrev cX12_whole : ByteArray := prog_14_method_45_code
def yX12_whole : MethodName := ⟨RX12, "whole", "(I)I"⟩
abbrev cX12_tale : ByteArray := prog_14_method_46_code
def yX12_tale : MethodName := ⟨RX12, "tale", "(IIIII)I"⟩
abbrev cX12_known : ByteArray := prog_14_method_47_code
def yX12_known : MethodName := ⟨RX12, "known", "(I)I"⟩
abbrev cX12_next : ByteArray := prog_14_method_48_code
def yX12_next : MethodName := ⟨RX12, "next", "(II)I"⟩
abbrev cX12_even : ByteArray := prog_14_method_49_code
def yX12_even : MethodName := ⟨RX12, "even", "()I"⟩
abbrev cX12_common : ByteArray := prog_14_method_50_code
def yX12_common : MethodName := ⟨RX12, "common", "(JJ)J"⟩
abbrev cX12_inLeast : ByteArray := prog_14_method_51_code
def yX12_inLeast : MethodName := ⟨RX12, "inLeast", "(JJI)J"⟩
abbrev cX12_isStory : ByteArray := prog_14_method_52_code
def yX12_isStory : MethodName := ⟨RX12, "isStory", "(I)Z"⟩
abbrev cX12_story : ByteArray := prog_14_method_53_code
def yX12_story : MethodName := ⟨RX12, "story", "(II)J"⟩
abbrev cX12_chance : ByteArray := prog_14_method_54_code
def yX12_chance : MethodName := ⟨RX12, "chance", "(III)I"⟩
abbrev cX12_dug : ByteArray := prog_14_method_55_code
def yX12_dug : MethodName := ⟨RX12, "dug", "(II)I"⟩
abbrev cX12_believed : ByteArray := prog_14_method_56_code
def yX12_believed : MethodName := ⟨RX12, "believed", "(II)J"⟩
abbrev cX12_dig : ByteArray := prog_14_method_57_code
def yX12_dig : MethodName := ⟨RX12, "dig", "()I"⟩
abbrev cX12_minutes : ByteArray := prog_14_method_58_code
def yX12_minutes : MethodName := ⟨RX12, "minutes", "(III)I"⟩
abbrev cX12_trust : ByteArray := prog_14_method_59_code
def yX12_trust : MethodName := ⟨RX12, "trust", "(II)I"⟩
abbrev cX12_copy : ByteArray := prog_14_method_60_code
def yX12_copy : MethodName := ⟨RX12, "copy", "(II)V"⟩
abbrev cX12_keep : ByteArray := prog_14_method_61_code
def yX12_keep : MethodName := ⟨RX12, "keep", "(I)I"⟩
abbrev cX12_back : ByteArray := prog_14_method_62_code
def yX12_back : MethodName := ⟨RX12, "back", "(I)I"⟩
abbrev cX12_count : ByteArray := prog_14_method_63_code
def yX12_count : MethodName := ⟨RX12, "count", "(I)I"⟩
abbrev cX12_trace : ByteArray := prog_14_method_64_code
def yX12_trace : MethodName := ⟨RX12, "trace", "()J"⟩
def RJ6 : String := "java/lang/Integer"
def TJ6 : u_T := fun k => match k with
  | _ => ("", "", "", false)
def tyJ6 : Nat → FieldType := fun k => match k with
  | _ => .int
abbrev wsJ60 : List Cond := u_ws RJ6 TJ6 0
theorem nmJ6 : ∀ a, a < 0 → ∀ b, b < 0 → a ≠ b → (TJ6 a).2.1 ≠ (TJ6 b).2.1 := by decide +kernel
theorem tyJ6_ok : ∀ k, k < 0 → parseFieldDescriptor (TJ6 k).2.2.1 = some (tyJ6 k) := by decide +kernel
abbrev cJ6_compare_7cf53 : ByteArray := prog_15_method_40_code
def yJ6_compare_7cf53 : MethodName := ⟨RJ6, "compare", "(II)I"⟩
abbrev cJ6_bitCount_0f7a4 : ByteArray := prog_15_method_49_code
def yJ6_bitCount_0f7a4 : MethodName := ⟨RJ6, "bitCount", "(I)I"⟩
def RJ9 : String := "java/lang/Math"
def TJ9 : u_T := fun k => match k with
  | _ => ("", "", "", false)
def tyJ9 : Nat → FieldType := fun k => match k with
  | _ => .int
abbrev wsJ90 : List Cond := u_ws RJ9 TJ9 0
theorem nmJ9 : ∀ a, a < 0 → ∀ b, b < 0 → a ≠ b → (TJ9 a).2.1 ≠ (TJ9 b).2.1 := by decide +kernel
theorem tyJ9_ok : ∀ k, k < 0 → parseFieldDescriptor (TJ9 k).2.2.1 = some (tyJ9 k) := by decide +kernel
abbrev cJ9_max_7cf53 : ByteArray := prog_16_method_65_code
def yJ9_max_7cf53 : MethodName := ⟨RJ9, "max", "(II)I"⟩
abbrev cJ9_max_f86c9 : ByteArray := prog_16_method_66_code
def yJ9_max_f86c9 : MethodName := ⟨RJ9, "max", "(JJ)J"⟩
abbrev cJ9_min_7cf53 : ByteArray := prog_16_method_69_code
def yJ9_min_7cf53 : MethodName := ⟨RJ9, "min", "(II)I"⟩
def RJ10 : String := "java/lang/System"
def TJ10 : u_T := fun k => match k with
  | _ => ("", "", "", false)
def tyJ10 : Nat → FieldType := fun k => match k with
  | _ => .int
abbrev wsJ100 : List Cond := u_ws RJ10 TJ10 0
theorem nmJ10 : ∀ a, a < 0 → ∀ b, b < 0 → a ≠ b → (TJ10 a).2.1 ≠ (TJ10 b).2.1 := by decide +kernel
theorem tyJ10_ok : ∀ k, k < 0 → parseFieldDescriptor (TJ10 k).2.2.1 = some (tyJ10 k) := by decide +kernel
def RL : String := "OrphanWaveLaw"
abbrev cL_law : ByteArray := code
def yL_law : MethodName := ⟨RL, "law", "([I)Z"⟩
def wsX0_init : List Cond := .code yX0_init cX0_init 1 none :: ([.methodLink RX0 3 objectInit, .instanceMethod objectInit, .code objectInit ⟨#[0xb1]⟩ 1 none, .arrayClass .int, .fieldLink RX0 9 "OrphanWave$Books" "cells" "[I", .fieldLink RX0 15 "OrphanWave$Books" "froms" "[I", .fieldLink RX0 18 "OrphanWave$Books" "tos" "[I", .fieldLink RX0 21 "OrphanWave$Books" "lows" "[I", .fieldLink RX0 24 "OrphanWave$Books" "highs" "[I"] ++ wsX00)
def wsX0_add : List Cond := .code yX0_add cX0_add 6 (some .int) :: ([.fieldLink RX0 9 "OrphanWave$Books" "cells" "[I", .fieldLink RX0 27 "OrphanWave$Books" "count" "I", .fieldLink RX0 15 "OrphanWave$Books" "froms" "[I", .fieldLink RX0 18 "OrphanWave$Books" "tos" "[I", .fieldLink RX0 21 "OrphanWave$Books" "lows" "[I", .fieldLink RX0 24 "OrphanWave$Books" "highs" "[I"] ++ wsX00)
def wsX0_become : List Cond := .code yX0_become cX0_become 2 none :: ([.fieldLink RX0 9 "OrphanWave$Books" "cells" "[I", .methodLink RX0 31 arraycopyName, .native arraycopyName, .static arraycopyName, .initialized "java/lang/System", .fieldLink RX0 15 "OrphanWave$Books" "froms" "[I", .fieldLink RX0 18 "OrphanWave$Books" "tos" "[I", .fieldLink RX0 21 "OrphanWave$Books" "lows" "[I", .fieldLink RX0 24 "OrphanWave$Books" "highs" "[I", .fieldLink RX0 27 "OrphanWave$Books" "count" "I"] ++ wsX00)
def wsX1_init : List Cond := .code yX1_init cX1_init 1 none :: ([.methodLink RX1 3 objectInit, .instanceMethod objectInit, .code objectInit ⟨#[0xb1]⟩ 1 none, .classLink RX1 9 "[[I", .arrayClass .int, .fieldLink RX1 11 "OrphanWave$Calendar" "lengths" "[[I", .fieldLink RX1 16 "OrphanWave$Calendar" "months" "[I"] ++ wsX10)
def wsX9_byteAt : List Cond := .code yX9_byteAt cX9_byteAt 2 (some .int) :: ([.fieldLink RX9 15 "OrphanWave$Text" "length" "I", .fieldLink RX9 9 "OrphanWave$Text" "bytes" "[B"] ++ wsX90)
def wsX9_isFigure : List Cond := .code yX9_isFigure cX9_isFigure 3 (some .boolean) :: ([.methodLink RX9 19 yX9_byteAt, .instanceMethod yX9_byteAt, .selects RX9 yX9_byteAt yX9_byteAt, .initialized RX9, .code yX9_byteAt cX9_byteAt 2 (some .int), .fieldLink RX9 15 "OrphanWave$Text" "length" "I", .fieldLink RX9 9 "OrphanWave$Text" "bytes" "[B"] ++ wsX90)
def wsX9_figuresEnd : List Cond := .code yX9_figuresEnd cX9_figuresEnd 3 (some .int) :: ([.fieldLink RX9 15 "OrphanWave$Text" "length" "I", .methodLink RX9 23 yX9_isFigure, .instanceMethod yX9_isFigure, .selects RX9 yX9_isFigure yX9_isFigure, .initialized RX9, .code yX9_isFigure cX9_isFigure 3 (some .boolean), .methodLink RX9 19 yX9_byteAt, .instanceMethod yX9_byteAt, .selects RX9 yX9_byteAt yX9_byteAt, .code yX9_byteAt cX9_byteAt 2 (some .int), .fieldLink RX9 9 "OrphanWave$Text" "bytes" "[B"] ++ wsX90)
def wsX1_endsYear : List Cond := .code yX1_endsYear cX1_endsYear 2 (some .boolean) :: ([.fieldLink RX1 20 "OrphanWave$Calendar" "years" "I", .fieldLink RX1 16 "OrphanWave$Calendar" "months" "[I"] ++ wsX10)
def wsX1_lengthAt : List Cond := .code yX1_lengthAt cX1_lengthAt 4 (some .int) :: ([.methodLink RX1 54 yX9_isFigure, .instanceMethod yX9_isFigure, .selects RX9 yX9_isFigure yX9_isFigure, .initialized RX9, .code yX9_isFigure cX9_isFigure 3 (some .boolean), .methodLink RX9 19 yX9_byteAt, .instanceMethod yX9_byteAt, .selects RX9 yX9_byteAt yX9_byteAt, .code yX9_byteAt cX9_byteAt 2 (some .int), .fieldLink RX9 15 "OrphanWave$Text" "length" "I", .fieldLink RX9 9 "OrphanWave$Text" "bytes" "[B", .methodLink RX1 39 yX9_byteAt] ++ wsX90)
def wsX1_takesMonth : List Cond := .code yX1_takesMonth cX1_takesMonth 3 (some .boolean) :: ([.fieldLink RX1 20 "OrphanWave$Calendar" "years" "I", .fieldLink RX1 11 "OrphanWave$Calendar" "lengths" "[[I"] ++ wsX10)
def wsX1_become_r1 : List Cond := [Cond.fieldLink RX1 20 "OrphanWave$Calendar" "years" "I", Cond.methodLink RX1 33 Lib.Math.max.name, Cond.static Lib.Math.max.name, Cond.initialized "java/lang/Math", Cond.code Lib.Math.max.name Lib.Math.max.code 2 (some .int), Cond.methodLink RX1 29 yX9_figuresEnd, Cond.instanceMethod yX9_figuresEnd, Cond.selects RX9 yX9_figuresEnd yX9_figuresEnd, Cond.initialized RX9, Cond.code yX9_figuresEnd cX9_figuresEnd 3 (some .int), Cond.fieldLink RX9 15 "OrphanWave$Text" "length" "I", Cond.methodLink RX9 23 yX9_isFigure, Cond.instanceMethod yX9_isFigure, Cond.selects RX9 yX9_isFigure yX9_isFigure, Cond.code yX9_isFigure cX9_isFigure 3 (some .boolean), Cond.methodLink RX9 19 yX9_byteAt, Cond.instanceMethod yX9_byteAt, Cond.selects RX9 yX9_byteAt yX9_byteAt, Cond.code yX9_byteAt cX9_byteAt 2 (some .int), Cond.fieldLink RX9 9 "OrphanWave$Text" "bytes" "[B", Cond.methodLink RX1 39 yX9_byteAt, Cond.methodLink RX1 42 yX1_endsYear, Cond.instanceMethod yX1_endsYear, Cond.selects RX1 yX1_endsYear yX1_endsYear]
def wsX1_become_r2 : List Cond := [Cond.initialized RX1, Cond.code yX1_endsYear cX1_endsYear 2 (some .boolean), Cond.fieldLink RX1 16 "OrphanWave$Calendar" "months" "[I", Cond.methodLink RX1 46 yX1_lengthAt, Cond.static yX1_lengthAt, Cond.code yX1_lengthAt cX1_lengthAt 4 (some .int), Cond.methodLink RX1 54 yX9_isFigure, Cond.methodLink RX1 50 yX1_takesMonth, Cond.instanceMethod yX1_takesMonth, Cond.selects RX1 yX1_takesMonth yX1_takesMonth, Cond.code yX1_takesMonth cX1_takesMonth 3 (some .boolean), Cond.fieldLink RX1 11 "OrphanWave$Calendar" "lengths" "[[I"]
def wsX1_become : List Cond := .code yX1_become cX1_become 5 (some .int) :: ((wsX1_become_r1 ++ wsX1_become_r2) ++ wsX10 ++ wsX90)
def wsX11_within : List Cond := .code yX11_within cX11_within 3 (some .boolean) :: ([])
def wsX1_hasDay : List Cond := .code yX1_hasDay cX1_hasDay 4 (some .boolean) :: ([.fieldLink RX1 20 "OrphanWave$Calendar" "years" "I", .fieldLink RX1 16 "OrphanWave$Calendar" "months" "[I", .fieldLink RX1 11 "OrphanWave$Calendar" "lengths" "[[I", .static yX11_within, .initialized RX11, .code yX11_within cX11_within 3 (some .boolean)] ++ wsX10)
def wsX1_daysOf : List Cond := .code yX1_daysOf cX1_daysOf 5 (some .int) :: ([.fieldLink RX1 11 "OrphanWave$Calendar" "lengths" "[[I"] ++ wsX10)
def wsX1_daysAhead : List Cond := .code yX1_daysAhead cX1_daysAhead 6 (some .int) :: ([.fieldLink RX1 16 "OrphanWave$Calendar" "months" "[I", .methodLink RX1 61 yX1_daysOf, .instanceMethod yX1_daysOf, .selects RX1 yX1_daysOf yX1_daysOf, .initialized RX1, .code yX1_daysOf cX1_daysOf 5 (some .int), .fieldLink RX1 11 "OrphanWave$Calendar" "lengths" "[[I"] ++ wsX10)
def wsX1_allDays : List Cond := .code yX1_allDays cX1_allDays 3 (some .int) :: ([.fieldLink RX1 20 "OrphanWave$Calendar" "years" "I", .fieldLink RX1 16 "OrphanWave$Calendar" "months" "[I", .methodLink RX1 61 yX1_daysOf, .instanceMethod yX1_daysOf, .selects RX1 yX1_daysOf yX1_daysOf, .initialized RX1, .code yX1_daysOf cX1_daysOf 5 (some .int), .fieldLink RX1 11 "OrphanWave$Calendar" "lengths" "[[I"] ++ wsX10)
def wsX1_partOfDay : List Cond := .code yX1_partOfDay cX1_partOfDay 6 (some .int) :: ([.fieldLink RX1 20 "OrphanWave$Calendar" "years" "I", .fieldLink RX1 16 "OrphanWave$Calendar" "months" "[I", .fieldLink RX1 11 "OrphanWave$Calendar" "lengths" "[[I", .constant RX1 64 (-1000000)] ++ wsX10)
def wsX6_init : List Cond := .code yX6_init cX6_init 1 none :: ([.methodLink RX6 3 objectInit, .instanceMethod objectInit, .code objectInit ⟨#[0xb1]⟩ 1 none, .arrayClass .int, .fieldLink RX6 9 "OrphanWave$Sheets" "marshes" "[I", .fieldLink RX6 15 "OrphanWave$Sheets" "olds" "[I", .fieldLink RX6 18 "OrphanWave$Sheets" "youngs" "[I"] ++ wsX60)
def wsX3_init : List Cond := .code yX3_init cX3_init 1 none :: ([.methodLink RX3 3 objectInit, .instanceMethod objectInit, .code objectInit ⟨#[0xb1]⟩ 1 none, .arrayClass .int, .fieldLink RX3 9 "OrphanWave$KnownSlips" "years" "[I"] ++ wsX30)
def wsX2_init_r1 : List Cond := [Cond.methodLink RX2 3 objectInit, Cond.instanceMethod objectInit, Cond.code objectInit ⟨#[0xb1]⟩ 1 none, Cond.classLink RX2 9 RX0, Cond.instantiable RX0 6, Cond.initialized RX0, Cond.fieldLink RX2 12 "OrphanWave$Findings" "books" "LOrphanWave$Books;", Cond.classLink RX2 18 RX6, Cond.instantiable RX6 4, Cond.initialized RX6, Cond.fieldLink RX2 21 "OrphanWave$Findings" "sheets" "LOrphanWave$Sheets;", Cond.classLink RX2 25 RX3, Cond.instantiable RX3 2, Cond.initialized RX3, Cond.fieldLink RX2 28 "OrphanWave$Findings" "known" "LOrphanWave$KnownSlips;", Cond.arrayClass .long, Cond.fieldLink RX2 32 "OrphanWave$Findings" "weights" "[J", Cond.instanceMethod yX0_init, Cond.code yX0_init cX0_init 1 none, Cond.methodLink RX0 3 objectInit, Cond.arrayClass .int, Cond.fieldLink RX0 9 "OrphanWave$Books" "cells" "[I", Cond.fieldLink RX0 15 "OrphanWave$Books" "froms" "[I", Cond.fieldLink RX0 18 "OrphanWave$Books" "tos" "[I"]
def wsX2_init_r2 : List Cond := [Cond.fieldLink RX0 21 "OrphanWave$Books" "lows" "[I", Cond.fieldLink RX0 24 "OrphanWave$Books" "highs" "[I", Cond.instanceMethod yX6_init, Cond.code yX6_init cX6_init 1 none, Cond.methodLink RX6 3 objectInit, Cond.fieldLink RX6 9 "OrphanWave$Sheets" "marshes" "[I", Cond.fieldLink RX6 15 "OrphanWave$Sheets" "olds" "[I", Cond.fieldLink RX6 18 "OrphanWave$Sheets" "youngs" "[I", Cond.instanceMethod yX3_init, Cond.code yX3_init cX3_init 1 none, Cond.methodLink RX3 3 objectInit, Cond.fieldLink RX3 9 "OrphanWave$KnownSlips" "years" "[I"]
def wsX2_init : List Cond := .code yX2_init cX2_init 1 none :: ((wsX2_init_r1 ++ wsX2_init_r2) ++ wsX00 ++ wsX20 ++ wsX60 ++ wsX30)
def wsX6_become : List Cond := .code yX6_become cX6_become 2 none :: ([.fieldLink RX6 9 "OrphanWave$Sheets" "marshes" "[I", .methodLink RX6 25 arraycopyName, .native arraycopyName, .static arraycopyName, .initialized "java/lang/System", .fieldLink RX6 15 "OrphanWave$Sheets" "olds" "[I", .fieldLink RX6 18 "OrphanWave$Sheets" "youngs" "[I", .fieldLink RX6 21 "OrphanWave$Sheets" "count" "I"] ++ wsX60)
def wsX3_become : List Cond := .code yX3_become cX3_become 2 none :: ([.fieldLink RX3 9 "OrphanWave$KnownSlips" "years" "[I", .methodLink RX3 19 arraycopyName, .native arraycopyName, .static arraycopyName, .initialized "java/lang/System", .fieldLink RX3 15 "OrphanWave$KnownSlips" "count" "I"] ++ wsX30)
def wsX2_become_r1 : List Cond := [Cond.fieldLink RX2 12 "OrphanWave$Findings" "books" "LOrphanWave$Books;", Cond.fieldLink RX2 21 "OrphanWave$Findings" "sheets" "LOrphanWave$Sheets;", Cond.fieldLink RX2 28 "OrphanWave$Findings" "known" "LOrphanWave$KnownSlips;", Cond.fieldLink RX2 32 "OrphanWave$Findings" "weights" "[J", Cond.methodLink RX2 46 arraycopyName, Cond.native arraycopyName, Cond.static arraycopyName, Cond.initialized "java/lang/System", Cond.fieldLink RX2 52 "OrphanWave$Findings" "dugMarshes" "I", Cond.methodLink RX2 36 yX0_become, Cond.instanceMethod yX0_become, Cond.selects RX0 yX0_become yX0_become, Cond.initialized RX0, Cond.code yX0_become cX0_become 2 none, Cond.fieldLink RX0 9 "OrphanWave$Books" "cells" "[I", Cond.methodLink RX0 31 arraycopyName, Cond.fieldLink RX0 15 "OrphanWave$Books" "froms" "[I", Cond.fieldLink RX0 18 "OrphanWave$Books" "tos" "[I", Cond.fieldLink RX0 21 "OrphanWave$Books" "lows" "[I", Cond.fieldLink RX0 24 "OrphanWave$Books" "highs" "[I", Cond.fieldLink RX0 27 "OrphanWave$Books" "count" "I", Cond.methodLink RX2 40 yX6_become, Cond.instanceMethod yX6_become, Cond.selects RX6 yX6_become yX6_become]
def wsX2_become_r2 : List Cond := [Cond.initialized RX6, Cond.code yX6_become cX6_become 2 none, Cond.fieldLink RX6 9 "OrphanWave$Sheets" "marshes" "[I", Cond.methodLink RX6 25 arraycopyName, Cond.fieldLink RX6 15 "OrphanWave$Sheets" "olds" "[I", Cond.fieldLink RX6 18 "OrphanWave$Sheets" "youngs" "[I", Cond.fieldLink RX6 21 "OrphanWave$Sheets" "count" "I", Cond.methodLink RX2 43 yX3_become, Cond.instanceMethod yX3_become, Cond.selects RX3 yX3_become yX3_become, Cond.initialized RX3, Cond.code yX3_become cX3_become 2 none, Cond.fieldLink RX3 9 "OrphanWave$KnownSlips" "years" "[I", Cond.methodLink RX3 19 arraycopyName, Cond.fieldLink RX3 15 "OrphanWave$KnownSlips" "count" "I"]
def wsX2_become : List Cond := .code yX2_become cX2_become 2 none :: ((wsX2_become_r1 ++ wsX2_become_r2) ++ wsX20 ++ wsX00 ++ wsX60 ++ wsX30)
def wsX2_isDug : List Cond := .code yX2_isDug cX2_isDug 2 (some .boolean) :: ([.fieldLink RX2 52 "OrphanWave$Findings" "dugMarshes" "I"] ++ wsX20)
def wsJ6_bitCount_0f7a4 : List Cond := .code yJ6_bitCount_0f7a4 cJ6_bitCount_0f7a4 1 (some .int) :: ([.constant RJ6 265 (1431655765), .constant RJ6 266 (858993459), .constant RJ6 267 (252645135)])
def wsX2_dugCount : List Cond := .code yX2_dugCount cX2_dugCount 1 (some .int) :: ([.fieldLink RX2 52 "OrphanWave$Findings" "dugMarshes" "I", .methodLink RX2 56 yJ6_bitCount_0f7a4, .static yJ6_bitCount_0f7a4, .initialized RJ6, .code yJ6_bitCount_0f7a4 cJ6_bitCount_0f7a4 1 (some .int), .constant RJ6 265 (1431655765), .constant RJ6 266 (858993459), .constant RJ6 267 (252645135)] ++ wsX20)
def wsX3_isLater : List Cond := .code yX3_isLater cX3_isLater 2 (some .boolean) :: ([.fieldLink RX3 15 "OrphanWave$KnownSlips" "count" "I", .fieldLink RX3 9 "OrphanWave$KnownSlips" "years" "[I"] ++ wsX30)
def wsX3_add : List Cond := .code yX3_add cX3_add 2 (some .int) :: ([.fieldLink RX3 9 "OrphanWave$KnownSlips" "years" "[I", .fieldLink RX3 15 "OrphanWave$KnownSlips" "count" "I"] ++ wsX30)
def wsX3_gapsAbove : List Cond := .code yX3_gapsAbove cX3_gapsAbove 4 (some .int) :: ([.fieldLink RX3 15 "OrphanWave$KnownSlips" "count" "I", .fieldLink RX3 9 "OrphanWave$KnownSlips" "years" "[I"] ++ wsX30)
def wsX11_commonPart : List Cond := .code yX11_commonPart cX11_commonPart 11 (some .long) :: ([])
def wsX3_outlook : List Cond := .code yX3_outlook cX3_outlook 8 (some .int) :: ([.fieldLink RX3 15 "OrphanWave$KnownSlips" "count" "I", .fieldLink RX3 9 "OrphanWave$KnownSlips" "years" "[I", .constant RX3 25 (-1000000), .methodLink RX3 26 yX3_gapsAbove, .instanceMethod yX3_gapsAbove, .selects RX3 yX3_gapsAbove yX3_gapsAbove, .initialized RX3, .code yX3_gapsAbove cX3_gapsAbove 4 (some .int), .static yX11_commonPart, .initialized RX11, .code yX11_commonPart cX11_commonPart 11 (some .long)] ++ wsX30)
def wsX3_evenness : List Cond := .code yX3_evenness cX3_evenness 4 (some .int) :: ([.fieldLink RX3 15 "OrphanWave$KnownSlips" "count" "I", .fieldLink RX3 9 "OrphanWave$KnownSlips" "years" "[I", .methodLink RX3 34 Lib.Math.min.name, .static Lib.Math.min.name, .initialized "java/lang/Math", .code Lib.Math.min.name Lib.Math.min.code 2 (some .int), .methodLink RX3 40 Lib.Math.max.name, .static Lib.Math.max.name, .code Lib.Math.max.name Lib.Math.max.code 2 (some .int)] ++ wsX30)
def wsX4_init : List Cond := .code yX4_init cX4_init 1 none :: ([.methodLink RX4 3 objectInit, .instanceMethod objectInit, .code objectInit ⟨#[0xb1]⟩ 1 none, .arrayClass .int, .fieldLink RX4 9 "OrphanWave$Ocean" "depths" "[I", .fieldLink RX4 15 "OrphanWave$Ocean" "figures" "[I", .fieldLink RX4 18 "OrphanWave$Ocean" "times" "[I", .fieldLink RX4 21 "OrphanWave$Ocean" "pace" "I", .fieldLink RX4 25 "OrphanWave$Ocean" "fade" "I"] ++ wsX40)
def wsX11_isCell : List Cond := .code yX11_isCell cX11_isCell 1 (some .boolean) :: ([.methodLink RX11 84 yX11_within, .static yX11_within, .initialized RX11, .code yX11_within cX11_within 3 (some .boolean)])
def wsX4_isSea : List Cond := .code yX4_isSea cX4_isSea 2 (some .boolean) :: ([.fieldLink RX4 9 "OrphanWave$Ocean" "depths" "[I", .static yX11_isCell, .initialized RX11, .code yX11_isCell cX11_isCell 1 (some .boolean), .methodLink RX11 84 yX11_within, .static yX11_within, .code yX11_within cX11_within 3 (some .boolean)] ++ wsX40)
def wsX4_seaCells : List Cond := .code yX4_seaCells cX4_seaCells 3 (some .int) :: ([.fieldLink RX4 9 "OrphanWave$Ocean" "depths" "[I"] ++ wsX40)
def wsX4_read : List Cond := .code yX4_read cX4_read 5 (some .int) :: ([.fieldLink RX4 15 "OrphanWave$Ocean" "figures" "[I", .methodLink RX4 47 yX9_byteAt, .instanceMethod yX9_byteAt, .selects RX9 yX9_byteAt yX9_byteAt, .initialized RX9, .code yX9_byteAt cX9_byteAt 2 (some .int), .fieldLink RX9 15 "OrphanWave$Text" "length" "I", .fieldLink RX9 9 "OrphanWave$Text" "bytes" "[B", .methodLink RX4 51 yX9_isFigure, .instanceMethod yX9_isFigure, .selects RX9 yX9_isFigure yX9_isFigure, .code yX9_isFigure cX9_isFigure 3 (some .boolean), .methodLink RX9 19 yX9_byteAt] ++ wsX90 ++ wsX40)
def wsX4_become : List Cond := .code yX4_become cX4_become 3 (some .int) :: ([.fieldLink RX4 15 "OrphanWave$Ocean" "figures" "[I", .fieldLink RX4 9 "OrphanWave$Ocean" "depths" "[I", .methodLink RX4 36 arraycopyName, .native arraycopyName, .static arraycopyName, .initialized "java/lang/System", .methodLink RX4 32 yX4_read, .instanceMethod yX4_read, .selects RX4 yX4_read yX4_read, .initialized RX4, .code yX4_read cX4_read 5 (some .int), .methodLink RX4 47 yX9_byteAt, .instanceMethod yX9_byteAt, .selects RX9 yX9_byteAt yX9_byteAt, .initialized RX9, .code yX9_byteAt cX9_byteAt 2 (some .int), .fieldLink RX9 15 "OrphanWave$Text" "length" "I", .fieldLink RX9 9 "OrphanWave$Text" "bytes" "[B", .methodLink RX4 51 yX9_isFigure, .instanceMethod yX9_isFigure, .selects RX9 yX9_isFigure yX9_isFigure, .code yX9_isFigure cX9_isFigure 3 (some .boolean), .methodLink RX9 19 yX9_byteAt] ++ wsX40 ++ wsX90)
def wsX4_shorten : List Cond := .code yX4_shorten cX4_shorten 5 (some .boolean) :: ([.fieldLink RX4 21 "OrphanWave$Ocean" "pace" "I", .fieldLink RX4 9 "OrphanWave$Ocean" "depths" "[I"] ++ wsX40)
def wsX4_sweep : List Cond := .code yX4_sweep cX4_sweep 5 (some .boolean) :: ([.fieldLink RX4 9 "OrphanWave$Ocean" "depths" "[I", .methodLink RX4 62 yX4_shorten, .instanceMethod yX4_shorten, .selects RX4 yX4_shorten yX4_shorten, .initialized RX4, .code yX4_shorten cX4_shorten 5 (some .boolean), .fieldLink RX4 21 "OrphanWave$Ocean" "pace" "I"] ++ wsX40)
def wsX4_measureTo : List Cond := .code yX4_measureTo cX4_measureTo 5 none :: ([.fieldLink RX4 9 "OrphanWave$Ocean" "depths" "[I", .methodLink RX4 58 yX4_sweep, .instanceMethod yX4_sweep, .selects RX4 yX4_sweep yX4_sweep, .initialized RX4, .code yX4_sweep cX4_sweep 5 (some .boolean), .methodLink RX4 62 yX4_shorten, .instanceMethod yX4_shorten, .selects RX4 yX4_shorten yX4_shorten, .code yX4_shorten cX4_shorten 5 (some .boolean), .fieldLink RX4 21 "OrphanWave$Ocean" "pace" "I"] ++ wsX40)
def wsX4_travel : List Cond := .code yX4_travel cX4_travel 3 (some .int) :: ([.fieldLink RX4 18 "OrphanWave$Ocean" "times" "[I", .methodLink RX4 54 yX4_measureTo, .instanceMethod yX4_measureTo, .selects RX4 yX4_measureTo yX4_measureTo, .initialized RX4, .code yX4_measureTo cX4_measureTo 5 none, .fieldLink RX4 9 "OrphanWave$Ocean" "depths" "[I", .methodLink RX4 58 yX4_sweep, .instanceMethod yX4_sweep, .selects RX4 yX4_sweep yX4_sweep, .code yX4_sweep cX4_sweep 5 (some .boolean), .methodLink RX4 62 yX4_shorten, .instanceMethod yX4_shorten, .selects RX4 yX4_shorten yX4_shorten, .code yX4_shorten cX4_shorten 5 (some .boolean), .fieldLink RX4 21 "OrphanWave$Ocean" "pace" "I"] ++ wsX40)
def wsX4_soonest : List Cond := .code yX4_soonest cX4_soonest 6 (some .int) :: ([.fieldLink RX4 18 "OrphanWave$Ocean" "times" "[I", .methodLink RX4 54 yX4_measureTo, .instanceMethod yX4_measureTo, .selects RX4 yX4_measureTo yX4_measureTo, .initialized RX4, .code yX4_measureTo cX4_measureTo 5 none, .fieldLink RX4 9 "OrphanWave$Ocean" "depths" "[I", .methodLink RX4 58 yX4_sweep, .instanceMethod yX4_sweep, .selects RX4 yX4_sweep yX4_sweep, .code yX4_sweep cX4_sweep 5 (some .boolean), .methodLink RX4 62 yX4_shorten, .instanceMethod yX4_shorten, .selects RX4 yX4_shorten yX4_shorten, .code yX4_shorten cX4_shorten 5 (some .boolean), .fieldLink RX4 21 "OrphanWave$Ocean" "pace" "I"] ++ wsX40)
def wsX4_swell : List Cond := .code yX4_swell cX4_swell 6 (some .int) :: ([.fieldLink RX4 25 "OrphanWave$Ocean" "fade" "I", .fieldLink RX4 9 "OrphanWave$Ocean" "depths" "[I"] ++ wsX40)
def wsX5_init : List Cond := .code yX5_init cX5_init 3 none :: ([.methodLink RX5 3 objectInit, .instanceMethod objectInit, .code objectInit ⟨#[0xb1]⟩ 1 none, .classLink RX5 9 "[[I", .arrayClass .int, .fieldLink RX5 11 "OrphanWave$Search" "times" "[[I", .fieldLink RX5 16 "OrphanWave$Search" "ocean" "LOrphanWave$Ocean;", .fieldLink RX5 20 "OrphanWave$Search" "books" "LOrphanWave$Books;"] ++ wsX50)
def wsX5_measure : List Cond := .code yX5_measure cX5_measure 2 none :: ([.fieldLink RX5 20 "OrphanWave$Search" "books" "LOrphanWave$Books;", .fieldLink RX5 16 "OrphanWave$Search" "ocean" "LOrphanWave$Ocean;", .fieldLink RX5 11 "OrphanWave$Search" "times" "[[I", .methodLink RX5 34 yX4_measureTo, .instanceMethod yX4_measureTo, .selects RX4 yX4_measureTo yX4_measureTo, .initialized RX4, .code yX4_measureTo cX4_measureTo 5 none, .fieldLink RX4 9 "OrphanWave$Ocean" "depths" "[I", .methodLink RX4 58 yX4_sweep, .instanceMethod yX4_sweep, .selects RX4 yX4_sweep yX4_sweep, .code yX4_sweep cX4_sweep 5 (some .boolean), .methodLink RX4 62 yX4_shorten, .instanceMethod yX4_shorten, .selects RX4 yX4_shorten yX4_shorten, .code yX4_shorten cX4_shorten 5 (some .boolean), .fieldLink RX4 21 "OrphanWave$Ocean" "pace" "I"] ++ wsX50 ++ wsX00 ++ wsX40)
def wsX5_earliestBegin : List Cond := .code yX5_earliestBegin cX5_earliestBegin 4 (some .int) :: ([.fieldLink RX5 20 "OrphanWave$Search" "books" "LOrphanWave$Books;", .fieldLink RX5 11 "OrphanWave$Search" "times" "[[I", .methodLink RX5 43 Lib.Math.max.name, .static Lib.Math.max.name, .initialized "java/lang/Math", .code Lib.Math.max.name Lib.Math.max.code 2 (some .int)] ++ wsX50 ++ wsX00)
def wsX5_latestBegin : List Cond := .code yX5_latestBegin cX5_latestBegin 4 (some .int) :: ([.fieldLink RX5 20 "OrphanWave$Search" "books" "LOrphanWave$Books;", .fieldLink RX5 11 "OrphanWave$Search" "times" "[[I", .methodLink RX5 52 Lib.Math.min.name, .static Lib.Math.min.name, .initialized "java/lang/Math", .code Lib.Math.min.name Lib.Math.min.code 2 (some .int)] ++ wsX50 ++ wsX00)
def wsX5_heightsFit : List Cond := .code yX5_heightsFit cX5_heightsFit 5 (some .boolean) :: ([.fieldLink RX5 20 "OrphanWave$Search" "books" "LOrphanWave$Books;", .fieldLink RX5 16 "OrphanWave$Search" "ocean" "LOrphanWave$Ocean;", .fieldLink RX5 11 "OrphanWave$Search" "times" "[[I", .methodLink RX5 77 yX4_swell, .instanceMethod yX4_swell, .selects RX4 yX4_swell yX4_swell, .initialized RX4, .code yX4_swell cX4_swell 6 (some .int), .fieldLink RX4 25 "OrphanWave$Ocean" "fade" "I", .fieldLink RX4 9 "OrphanWave$Ocean" "depths" "[I"] ++ wsX50 ++ wsX00 ++ wsX40)
def wsX5_comesToAll : List Cond := .code yX5_comesToAll cX5_comesToAll 3 (some .boolean) :: ([.fieldLink RX5 20 "OrphanWave$Search" "books" "LOrphanWave$Books;", .fieldLink RX5 11 "OrphanWave$Search" "times" "[[I"] ++ wsX50 ++ wsX00)
def wsX5_beginsByHours : List Cond := .code yX5_beginsByHours cX5_beginsByHours 2 (some .int) :: ([.methodLink RX5 43 Lib.Math.max.name, .static Lib.Math.max.name, .initialized "java/lang/Math", .code Lib.Math.max.name Lib.Math.max.code 2 (some .int), .methodLink RX5 67 yX5_comesToAll, .instanceMethod yX5_comesToAll, .selects RX5 yX5_comesToAll yX5_comesToAll, .initialized RX5, .code yX5_comesToAll cX5_comesToAll 3 (some .boolean), .fieldLink RX5 20 "OrphanWave$Search" "books" "LOrphanWave$Books;", .fieldLink RX5 11 "OrphanWave$Search" "times" "[[I", .methodLink RX5 71 yX5_latestBegin, .instanceMethod yX5_latestBegin, .selects RX5 yX5_latestBegin yX5_latestBegin, .code yX5_latestBegin cX5_latestBegin 4 (some .int), .methodLink RX5 52 Lib.Math.min.name, .static Lib.Math.min.name, .code Lib.Math.min.name Lib.Math.min.code 2 (some .int), .methodLink RX5 74 yX5_earliestBegin, .instanceMethod yX5_earliestBegin, .selects RX5 yX5_earliestBegin yX5_earliestBegin, .code yX5_earliestBegin cX5_earliestBegin 4 (some .int)] ++ wsX50 ++ wsX00)
def wsX5_beginsOf_r1 : List Cond := [Cond.methodLink RX5 55 yX5_heightsFit, Cond.instanceMethod yX5_heightsFit, Cond.selects RX5 yX5_heightsFit yX5_heightsFit, Cond.initialized RX5, Cond.code yX5_heightsFit cX5_heightsFit 5 (some .boolean), Cond.fieldLink RX5 20 "OrphanWave$Search" "books" "LOrphanWave$Books;", Cond.fieldLink RX5 16 "OrphanWave$Search" "ocean" "LOrphanWave$Ocean;", Cond.fieldLink RX5 11 "OrphanWave$Search" "times" "[[I", Cond.methodLink RX5 77 yX4_swell, Cond.instanceMethod yX4_swell, Cond.selects RX4 yX4_swell yX4_swell, Cond.initialized RX4, Cond.code yX4_swell cX4_swell 6 (some .int), Cond.fieldLink RX4 25 "OrphanWave$Ocean" "fade" "I", Cond.fieldLink RX4 9 "OrphanWave$Ocean" "depths" "[I", Cond.methodLink RX5 59 yX5_beginsByHours, Cond.instanceMethod yX5_beginsByHours, Cond.selects RX5 yX5_beginsByHours yX5_beginsByHours, Cond.code yX5_beginsByHours cX5_beginsByHours 2 (some .int), Cond.methodLink RX5 43 Lib.Math.max.name, Cond.static Lib.Math.max.name, Cond.initialized "java/lang/Math", Cond.code Lib.Math.max.name Lib.Math.max.code 2 (some .int), Cond.methodLink RX5 67 yX5_comesToAll]
def wsX5_beginsOf_r2 : List Cond := [Cond.instanceMethod yX5_comesToAll, Cond.selects RX5 yX5_comesToAll yX5_comesToAll, Cond.code yX5_comesToAll cX5_comesToAll 3 (some .boolean), Cond.methodLink RX5 71 yX5_latestBegin, Cond.instanceMethod yX5_latestBegin, Cond.selects RX5 yX5_latestBegin yX5_latestBegin, Cond.code yX5_latestBegin cX5_latestBegin 4 (some .int), Cond.methodLink RX5 52 Lib.Math.min.name, Cond.static Lib.Math.min.name, Cond.code Lib.Math.min.name Lib.Math.min.code 2 (some .int), Cond.methodLink RX5 74 yX5_earliestBegin, Cond.instanceMethod yX5_earliestBegin, Cond.selects RX5 yX5_earliestBegin yX5_earliestBegin, Cond.code yX5_earliestBegin cX5_earliestBegin 4 (some .int)]
def wsX5_beginsOf : List Cond := .code yX5_beginsOf cX5_beginsOf 3 (some .int) :: ((wsX5_beginsOf_r1 ++ wsX5_beginsOf_r2) ++ wsX50 ++ wsX00 ++ wsX40)
def wsX5_waysOf_r1 : List Cond := [Cond.methodLink RX5 59 yX5_beginsByHours, Cond.instanceMethod yX5_beginsByHours, Cond.selects RX5 yX5_beginsByHours yX5_beginsByHours, Cond.initialized RX5, Cond.code yX5_beginsByHours cX5_beginsByHours 2 (some .int), Cond.methodLink RX5 43 Lib.Math.max.name, Cond.static Lib.Math.max.name, Cond.initialized "java/lang/Math", Cond.code Lib.Math.max.name Lib.Math.max.code 2 (some .int), Cond.methodLink RX5 67 yX5_comesToAll, Cond.instanceMethod yX5_comesToAll, Cond.selects RX5 yX5_comesToAll yX5_comesToAll, Cond.code yX5_comesToAll cX5_comesToAll 3 (some .boolean), Cond.fieldLink RX5 20 "OrphanWave$Search" "books" "LOrphanWave$Books;", Cond.fieldLink RX5 11 "OrphanWave$Search" "times" "[[I", Cond.methodLink RX5 71 yX5_latestBegin, Cond.instanceMethod yX5_latestBegin, Cond.selects RX5 yX5_latestBegin yX5_latestBegin, Cond.code yX5_latestBegin cX5_latestBegin 4 (some .int), Cond.methodLink RX5 52 Lib.Math.min.name, Cond.static Lib.Math.min.name, Cond.code Lib.Math.min.name Lib.Math.min.code 2 (some .int), Cond.methodLink RX5 74 yX5_earliestBegin, Cond.instanceMethod yX5_earliestBegin]
def wsX5_waysOf_r2 : List Cond := [Cond.selects RX5 yX5_earliestBegin yX5_earliestBegin, Cond.code yX5_earliestBegin cX5_earliestBegin 4 (some .int), Cond.methodLink RX5 55 yX5_heightsFit, Cond.instanceMethod yX5_heightsFit, Cond.selects RX5 yX5_heightsFit yX5_heightsFit, Cond.code yX5_heightsFit cX5_heightsFit 5 (some .boolean), Cond.fieldLink RX5 16 "OrphanWave$Search" "ocean" "LOrphanWave$Ocean;", Cond.methodLink RX5 77 yX4_swell, Cond.instanceMethod yX4_swell, Cond.selects RX4 yX4_swell yX4_swell, Cond.initialized RX4, Cond.code yX4_swell cX4_swell 6 (some .int), Cond.fieldLink RX4 25 "OrphanWave$Ocean" "fade" "I", Cond.fieldLink RX4 9 "OrphanWave$Ocean" "depths" "[I"]
def wsX5_waysOf : List Cond := .code yX5_waysOf cX5_waysOf 5 (some .int) :: ((wsX5_waysOf_r1 ++ wsX5_waysOf_r2) ++ wsX50 ++ wsX00 ++ wsX40)
def wsX5_allWays_r1 : List Cond := [Cond.methodLink RX5 63 yX5_waysOf, Cond.instanceMethod yX5_waysOf, Cond.selects RX5 yX5_waysOf yX5_waysOf, Cond.initialized RX5, Cond.code yX5_waysOf cX5_waysOf 5 (some .int), Cond.methodLink RX5 59 yX5_beginsByHours, Cond.instanceMethod yX5_beginsByHours, Cond.selects RX5 yX5_beginsByHours yX5_beginsByHours, Cond.code yX5_beginsByHours cX5_beginsByHours 2 (some .int), Cond.methodLink RX5 43 Lib.Math.max.name, Cond.static Lib.Math.max.name, Cond.initialized "java/lang/Math", Cond.code Lib.Math.max.name Lib.Math.max.code 2 (some .int), Cond.methodLink RX5 67 yX5_comesToAll, Cond.instanceMethod yX5_comesToAll, Cond.selects RX5 yX5_comesToAll yX5_comesToAll, Cond.code yX5_comesToAll cX5_comesToAll 3 (some .boolean), Cond.fieldLink RX5 20 "OrphanWave$Search" "books" "LOrphanWave$Books;", Cond.fieldLink RX5 11 "OrphanWave$Search" "times" "[[I", Cond.methodLink RX5 71 yX5_latestBegin, Cond.instanceMethod yX5_latestBegin, Cond.selects RX5 yX5_latestBegin yX5_latestBegin, Cond.code yX5_latestBegin cX5_latestBegin 4 (some .int), Cond.methodLink RX5 52 Lib.Math.min.name]
def wsX5_allWays_r2 : List Cond := [Cond.static Lib.Math.min.name, Cond.code Lib.Math.min.name Lib.Math.min.code 2 (some .int), Cond.methodLink RX5 74 yX5_earliestBegin, Cond.instanceMethod yX5_earliestBegin, Cond.selects RX5 yX5_earliestBegin yX5_earliestBegin, Cond.code yX5_earliestBegin cX5_earliestBegin 4 (some .int), Cond.methodLink RX5 55 yX5_heightsFit, Cond.instanceMethod yX5_heightsFit, Cond.selects RX5 yX5_heightsFit yX5_heightsFit, Cond.code yX5_heightsFit cX5_heightsFit 5 (some .boolean), Cond.fieldLink RX5 16 "OrphanWave$Search" "ocean" "LOrphanWave$Ocean;", Cond.methodLink RX5 77 yX4_swell, Cond.instanceMethod yX4_swell, Cond.selects RX4 yX4_swell yX4_swell, Cond.initialized RX4, Cond.code yX4_swell cX4_swell 6 (some .int), Cond.fieldLink RX4 25 "OrphanWave$Ocean" "fade" "I", Cond.fieldLink RX4 9 "OrphanWave$Ocean" "depths" "[I"]
def wsX5_allWays : List Cond := .code yX5_allWays cX5_allWays 3 (some .int) :: ((wsX5_allWays_r1 ++ wsX5_allWays_r2) ++ wsX50 ++ wsX00 ++ wsX40)
def wsX5_likeliestCell_r1 : List Cond := [Cond.methodLink RX5 63 yX5_waysOf, Cond.instanceMethod yX5_waysOf, Cond.selects RX5 yX5_waysOf yX5_waysOf, Cond.initialized RX5, Cond.code yX5_waysOf cX5_waysOf 5 (some .int), Cond.methodLink RX5 59 yX5_beginsByHours, Cond.instanceMethod yX5_beginsByHours, Cond.selects RX5 yX5_beginsByHours yX5_beginsByHours, Cond.code yX5_beginsByHours cX5_beginsByHours 2 (some .int), Cond.methodLink RX5 43 Lib.Math.max.name, Cond.static Lib.Math.max.name, Cond.initialized "java/lang/Math", Cond.code Lib.Math.max.name Lib.Math.max.code 2 (some .int), Cond.methodLink RX5 67 yX5_comesToAll, Cond.instanceMethod yX5_comesToAll, Cond.selects RX5 yX5_comesToAll yX5_comesToAll, Cond.code yX5_comesToAll cX5_comesToAll 3 (some .boolean), Cond.fieldLink RX5 20 "OrphanWave$Search" "books" "LOrphanWave$Books;", Cond.fieldLink RX5 11 "OrphanWave$Search" "times" "[[I", Cond.methodLink RX5 71 yX5_latestBegin, Cond.instanceMethod yX5_latestBegin, Cond.selects RX5 yX5_latestBegin yX5_latestBegin, Cond.code yX5_latestBegin cX5_latestBegin 4 (some .int), Cond.methodLink RX5 52 Lib.Math.min.name]
def wsX5_likeliestCell_r2 : List Cond := [Cond.static Lib.Math.min.name, Cond.code Lib.Math.min.name Lib.Math.min.code 2 (some .int), Cond.methodLink RX5 74 yX5_earliestBegin, Cond.instanceMethod yX5_earliestBegin, Cond.selects RX5 yX5_earliestBegin yX5_earliestBegin, Cond.code yX5_earliestBegin cX5_earliestBegin 4 (some .int), Cond.methodLink RX5 55 yX5_heightsFit, Cond.instanceMethod yX5_heightsFit, Cond.selects RX5 yX5_heightsFit yX5_heightsFit, Cond.code yX5_heightsFit cX5_heightsFit 5 (some .boolean), Cond.fieldLink RX5 16 "OrphanWave$Search" "ocean" "LOrphanWave$Ocean;", Cond.methodLink RX5 77 yX4_swell, Cond.instanceMethod yX4_swell, Cond.selects RX4 yX4_swell yX4_swell, Cond.initialized RX4, Cond.code yX4_swell cX4_swell 6 (some .int), Cond.fieldLink RX4 25 "OrphanWave$Ocean" "fade" "I", Cond.fieldLink RX4 9 "OrphanWave$Ocean" "depths" "[I"]
def wsX5_likeliestCell : List Cond := .code yX5_likeliestCell cX5_likeliestCell 5 (some .int) :: ((wsX5_likeliestCell_r1 ++ wsX5_likeliestCell_r2) ++ wsX50 ++ wsX00 ++ wsX40)
def wsX5_leastSize : List Cond := .code yX5_leastSize cX5_leastSize 3 (some .int) :: ([.constant RX5 66 (-1000000), .methodLink RX5 55 yX5_heightsFit, .instanceMethod yX5_heightsFit, .selects RX5 yX5_heightsFit yX5_heightsFit, .initialized RX5, .code yX5_heightsFit cX5_heightsFit 5 (some .boolean), .fieldLink RX5 20 "OrphanWave$Search" "books" "LOrphanWave$Books;", .fieldLink RX5 16 "OrphanWave$Search" "ocean" "LOrphanWave$Ocean;", .fieldLink RX5 11 "OrphanWave$Search" "times" "[[I", .methodLink RX5 77 yX4_swell, .instanceMethod yX4_swell, .selects RX4 yX4_swell yX4_swell, .initialized RX4, .code yX4_swell cX4_swell 6 (some .int), .fieldLink RX4 25 "OrphanWave$Ocean" "fade" "I", .fieldLink RX4 9 "OrphanWave$Ocean" "depths" "[I"] ++ wsX50 ++ wsX00 ++ wsX40)
def wsX5_greatestSize : List Cond := .code yX5_greatestSize cX5_greatestSize 3 (some .int) :: ([.constant RX5 66 (-1000000), .methodLink RX5 55 yX5_heightsFit, .instanceMethod yX5_heightsFit, .selects RX5 yX5_heightsFit yX5_heightsFit, .initialized RX5, .code yX5_heightsFit cX5_heightsFit 5 (some .boolean), .fieldLink RX5 20 "OrphanWave$Search" "books" "LOrphanWave$Books;", .fieldLink RX5 16 "OrphanWave$Search" "ocean" "LOrphanWave$Ocean;", .fieldLink RX5 11 "OrphanWave$Search" "times" "[[I", .methodLink RX5 77 yX4_swell, .instanceMethod yX4_swell, .selects RX4 yX4_swell yX4_swell, .initialized RX4, .code yX4_swell cX4_swell 6 (some .int), .fieldLink RX4 25 "OrphanWave$Ocean" "fade" "I", .fieldLink RX4 9 "OrphanWave$Ocean" "depths" "[I"] ++ wsX50 ++ wsX00 ++ wsX40)
def wsX6_add : List Cond := .code yX6_add cX6_add 4 (some .int) :: ([.fieldLink RX6 9 "OrphanWave$Sheets" "marshes" "[I", .fieldLink RX6 21 "OrphanWave$Sheets" "count" "I", .fieldLink RX6 15 "OrphanWave$Sheets" "olds" "[I", .fieldLink RX6 18 "OrphanWave$Sheets" "youngs" "[I"] ++ wsX60)
def wsX6_all : List Cond := .code yX6_all cX6_all 1 (some .int) :: ([.fieldLink RX6 21 "OrphanWave$Sheets" "count" "I"] ++ wsX60)
def wsX6_firstShared : List Cond := .code yX6_firstShared cX6_firstShared 4 (some .int) :: ([.fieldLink RX6 21 "OrphanWave$Sheets" "count" "I", .fieldLink RX6 15 "OrphanWave$Sheets" "olds" "[I", .methodLink RX6 31 Lib.Math.max.name, .static Lib.Math.max.name, .initialized "java/lang/Math", .code Lib.Math.max.name Lib.Math.max.code 2 (some .int)] ++ wsX60)
def wsX6_lastShared : List Cond := .code yX6_lastShared cX6_lastShared 4 (some .int) :: ([.fieldLink RX6 21 "OrphanWave$Sheets" "count" "I", .fieldLink RX6 18 "OrphanWave$Sheets" "youngs" "[I", .methodLink RX6 37 Lib.Math.min.name, .static Lib.Math.min.name, .initialized "java/lang/Math", .code Lib.Math.min.name Lib.Math.min.code 2 (some .int)] ++ wsX60)
def wsX6_sheetsAt : List Cond := .code yX6_sheetsAt cX6_sheetsAt 4 (some .int) :: ([.fieldLink RX6 21 "OrphanWave$Sheets" "count" "I", .fieldLink RX6 15 "OrphanWave$Sheets" "olds" "[I", .fieldLink RX6 18 "OrphanWave$Sheets" "youngs" "[I", .static yX11_within, .initialized RX11, .code yX11_within cX11_within 3 (some .boolean)] ++ wsX60)
def wsX6_marshesOf : List Cond := .code yX6_marshesOf cX6_marshesOf 4 (some .int) :: ([.fieldLink RX6 21 "OrphanWave$Sheets" "count" "I", .fieldLink RX6 9 "OrphanWave$Sheets" "marshes" "[I"] ++ wsX60)
def wsX6_marshesAt : List Cond := .code yX6_marshesAt cX6_marshesAt 2 (some .int) :: ([.methodLink RX6 44 yX6_sheetsAt, .instanceMethod yX6_sheetsAt, .selects RX6 yX6_sheetsAt yX6_sheetsAt, .initialized RX6, .code yX6_sheetsAt cX6_sheetsAt 4 (some .int), .fieldLink RX6 21 "OrphanWave$Sheets" "count" "I", .fieldLink RX6 15 "OrphanWave$Sheets" "olds" "[I", .fieldLink RX6 18 "OrphanWave$Sheets" "youngs" "[I", .static yX11_within, .initialized RX11, .code yX11_within cX11_within 3 (some .boolean), .methodLink RX6 48 yX6_marshesOf, .instanceMethod yX6_marshesOf, .selects RX6 yX6_marshesOf yX6_marshesOf, .code yX6_marshesOf cX6_marshesOf 4 (some .int), .fieldLink RX6 9 "OrphanWave$Sheets" "marshes" "[I"] ++ wsX60)
def wsX6_fewestYears : List Cond := .code yX6_fewestYears cX6_fewestYears 4 (some .int) :: ([.methodLink RX6 51 yX6_all, .instanceMethod yX6_all, .selects RX6 yX6_all yX6_all, .initialized RX6, .code yX6_all cX6_all 1 (some .int), .fieldLink RX6 21 "OrphanWave$Sheets" "count" "I", .methodLink RX6 55 yX6_lastShared, .instanceMethod yX6_lastShared, .selects RX6 yX6_lastShared yX6_lastShared, .code yX6_lastShared cX6_lastShared 4 (some .int), .fieldLink RX6 18 "OrphanWave$Sheets" "youngs" "[I", .methodLink RX6 37 Lib.Math.min.name, .static Lib.Math.min.name, .initialized "java/lang/Math", .code Lib.Math.min.name Lib.Math.min.code 2 (some .int), .methodLink RX6 44 yX6_sheetsAt, .instanceMethod yX6_sheetsAt, .selects RX6 yX6_sheetsAt yX6_sheetsAt, .code yX6_sheetsAt cX6_sheetsAt 4 (some .int), .fieldLink RX6 15 "OrphanWave$Sheets" "olds" "[I", .static yX11_within, .initialized RX11, .code yX11_within cX11_within 3 (some .boolean)] ++ wsX60)
def wsX6_mostOfOneMarsh : List Cond := .code yX6_mostOfOneMarsh cX6_mostOfOneMarsh 5 (some .int) :: ([.fieldLink RX6 21 "OrphanWave$Sheets" "count" "I", .fieldLink RX6 9 "OrphanWave$Sheets" "marshes" "[I", .methodLink RX6 31 Lib.Math.max.name, .static Lib.Math.max.name, .initialized "java/lang/Math", .code Lib.Math.max.name Lib.Math.max.code 2 (some .int)] ++ wsX60)
def wsX6_widestYear_r1 : List Cond := [Cond.fieldLink RX6 21 "OrphanWave$Sheets" "count" "I", Cond.fieldLink RX6 15 "OrphanWave$Sheets" "olds" "[I", Cond.methodLink RX6 58 yX6_marshesAt, Cond.instanceMethod yX6_marshesAt, Cond.selects RX6 yX6_marshesAt yX6_marshesAt, Cond.initialized RX6, Cond.code yX6_marshesAt cX6_marshesAt 2 (some .int), Cond.methodLink RX6 44 yX6_sheetsAt, Cond.instanceMethod yX6_sheetsAt, Cond.selects RX6 yX6_sheetsAt yX6_sheetsAt, Cond.code yX6_sheetsAt cX6_sheetsAt 4 (some .int), Cond.fieldLink RX6 18 "OrphanWave$Sheets" "youngs" "[I", Cond.static yX11_within, Cond.initialized RX11, Cond.code yX11_within cX11_within 3 (some .boolean), Cond.methodLink RX6 48 yX6_marshesOf, Cond.instanceMethod yX6_marshesOf, Cond.selects RX6 yX6_marshesOf yX6_marshesOf, Cond.code yX6_marshesOf cX6_marshesOf 4 (some .int), Cond.fieldLink RX6 9 "OrphanWave$Sheets" "marshes" "[I", Cond.methodLink RX6 61 yJ6_bitCount_0f7a4, Cond.static yJ6_bitCount_0f7a4, Cond.initialized RJ6, Cond.code yJ6_bitCount_0f7a4 cJ6_bitCount_0f7a4 1 (some .int)]
def wsX6_widestYear_r2 : List Cond := [Cond.constant RJ6 265 (1431655765), Cond.constant RJ6 266 (858993459), Cond.constant RJ6 267 (252645135)]
def wsX6_widestYear : List Cond := .code yX6_widestYear cX6_widestYear 5 (some .int) :: ((wsX6_widestYear_r1 ++ wsX6_widestYear_r2) ++ wsX60)
def wsX6_companions : List Cond := .code yX6_companions cX6_companions 4 (some .int) :: ([.fieldLink RX6 21 "OrphanWave$Sheets" "count" "I", .fieldLink RX6 15 "OrphanWave$Sheets" "olds" "[I", .fieldLink RX6 18 "OrphanWave$Sheets" "youngs" "[I"] ++ wsX60)
def wsX7_init : List Cond := .code yX7_init cX7_init 2 none :: ([.methodLink RX7 1 objectInit, .instanceMethod objectInit, .code objectInit ⟨#[0xb1]⟩ 1 none, .fieldLink RX7 7 "OrphanWave$Signs" "found" "LOrphanWave$Findings;"] ++ wsX70)
def wsX7_asSign : List Cond := .code yX7_asSign cX7_asSign 2 (some .int) :: ([.fieldLink RX7 13 "OrphanWave$Signs" "trace" "J", .fieldLink RX7 7 "OrphanWave$Signs" "found" "LOrphanWave$Findings;"] ++ wsX70 ++ wsX20 ++ wsX60)
def wsX7_asSheet : List Cond := .code yX7_asSheet cX7_asSheet 2 (some .int) :: ([.fieldLink RX7 13 "OrphanWave$Signs" "trace" "J", .constantLong RX7 29 (10), .fieldLink RX7 7 "OrphanWave$Signs" "found" "LOrphanWave$Findings;", .methodLink RX7 31 yX7_asSign, .instanceMethod yX7_asSign, .selects RX7 yX7_asSign yX7_asSign, .initialized RX7, .code yX7_asSign cX7_asSign 2 (some .int), .methodLink RX7 35 yX6_companions, .instanceMethod yX6_companions, .selects RX6 yX6_companions yX6_companions, .initialized RX6, .code yX6_companions cX6_companions 4 (some .int), .fieldLink RX6 21 "OrphanWave$Sheets" "count" "I", .fieldLink RX6 15 "OrphanWave$Sheets" "olds" "[I", .fieldLink RX6 18 "OrphanWave$Sheets" "youngs" "[I"] ++ wsX70 ++ wsX20 ++ wsX60)
def wsX7_asWritten : List Cond := .code yX7_asWritten cX7_asWritten 2 (some .int) :: ([.fieldLink RX7 13 "OrphanWave$Signs" "trace" "J", .constantLong RX7 38 (100), .fieldLink RX7 7 "OrphanWave$Signs" "found" "LOrphanWave$Findings;", .methodLink RX7 31 yX7_asSign, .instanceMethod yX7_asSign, .selects RX7 yX7_asSign yX7_asSign, .initialized RX7, .code yX7_asSign cX7_asSign 2 (some .int)] ++ wsX70 ++ wsX20 ++ wsX00 ++ wsX60)
def wsX7_asSlid_r1 : List Cond := [Cond.fieldLink RX7 13 "OrphanWave$Signs" "trace" "J", Cond.constantLong RX7 50 (1000), Cond.fieldLink RX7 7 "OrphanWave$Signs" "found" "LOrphanWave$Findings;", Cond.methodLink RX7 52 yX6_all, Cond.instanceMethod yX6_all, Cond.selects RX6 yX6_all yX6_all, Cond.initialized RX6, Cond.code yX6_all cX6_all 1 (some .int), Cond.fieldLink RX6 21 "OrphanWave$Sheets" "count" "I", Cond.methodLink RX7 56 yX6_marshesOf, Cond.instanceMethod yX6_marshesOf, Cond.selects RX6 yX6_marshesOf yX6_marshesOf, Cond.code yX6_marshesOf cX6_marshesOf 4 (some .int), Cond.fieldLink RX6 9 "OrphanWave$Sheets" "marshes" "[I", Cond.methodLink RX7 59 yX7_asSheet, Cond.instanceMethod yX7_asSheet, Cond.selects RX7 yX7_asSheet yX7_asSheet, Cond.initialized RX7, Cond.code yX7_asSheet cX7_asSheet 2 (some .int), Cond.constantLong RX7 29 (10), Cond.methodLink RX7 31 yX7_asSign, Cond.instanceMethod yX7_asSign, Cond.selects RX7 yX7_asSign yX7_asSign, Cond.code yX7_asSign cX7_asSign 2 (some .int)]
def wsX7_asSlid_r2 : List Cond := [Cond.methodLink RX7 35 yX6_companions, Cond.instanceMethod yX6_companions, Cond.selects RX6 yX6_companions yX6_companions, Cond.code yX6_companions cX6_companions 4 (some .int), Cond.fieldLink RX6 15 "OrphanWave$Sheets" "olds" "[I", Cond.fieldLink RX6 18 "OrphanWave$Sheets" "youngs" "[I", Cond.methodLink RX7 62 yJ6_bitCount_0f7a4, Cond.static yJ6_bitCount_0f7a4, Cond.initialized RJ6, Cond.code yJ6_bitCount_0f7a4 cJ6_bitCount_0f7a4 1 (some .int), Cond.constant RJ6 265 (1431655765), Cond.constant RJ6 266 (858993459), Cond.constant RJ6 267 (252645135)]
def wsX7_asSlid : List Cond := .code yX7_asSlid cX7_asSlid 3 (some .int) :: ((wsX7_asSlid_r1 ++ wsX7_asSlid_r2) ++ wsX70 ++ wsX20 ++ wsX60)
def wsX7_asTold : List Cond := .code yX7_asTold cX7_asTold 2 (some .int) :: ([.fieldLink RX7 13 "OrphanWave$Signs" "trace" "J", .constantLong RX7 67 (10000), .methodLink RX7 69 yX7_asWritten, .instanceMethod yX7_asWritten, .selects RX7 yX7_asWritten yX7_asWritten, .initialized RX7, .code yX7_asWritten cX7_asWritten 2 (some .int), .constantLong RX7 38 (100), .fieldLink RX7 7 "OrphanWave$Signs" "found" "LOrphanWave$Findings;", .methodLink RX7 31 yX7_asSign, .instanceMethod yX7_asSign, .selects RX7 yX7_asSign yX7_asSign, .code yX7_asSign cX7_asSign 2 (some .int)] ++ wsX70 ++ wsX20 ++ wsX00 ++ wsX60)
def wsX7_asAged : List Cond := .code yX7_asAged cX7_asAged 3 (some .int) :: ([.fieldLink RX7 13 "OrphanWave$Signs" "trace" "J", .constantLong RX7 72 (100000), .fieldLink RX7 7 "OrphanWave$Signs" "found" "LOrphanWave$Findings;", .methodLink RX7 31 yX7_asSign, .instanceMethod yX7_asSign, .selects RX7 yX7_asSign yX7_asSign, .initialized RX7, .code yX7_asSign cX7_asSign 2 (some .int)] ++ wsX70 ++ wsX20 ++ wsX60)
def wsX8_init : List Cond := .code yX8_init cX8_init 4 none :: ([.methodLink RX8 3 objectInit, .instanceMethod objectInit, .code objectInit ⟨#[0xb1]⟩ 1 none, .classLink RX8 9 "[[I", .arrayClass .int, .fieldLink RX8 11 "OrphanWave$Stories" "chances" "[[I", .arrayClass .long, .fieldLink RX8 16 "OrphanWave$Stories" "behind" "[J", .fieldLink RX8 20 "OrphanWave$Stories" "found" "LOrphanWave$Findings;"] ++ wsX80)
def wsX8_weightBehind : List Cond := .code yX8_weightBehind cX8_weightBehind 5 (some .long) :: ([.fieldLink RX8 11 "OrphanWave$Stories" "chances" "[[I", .fieldLink RX8 20 "OrphanWave$Stories" "found" "LOrphanWave$Findings;"] ++ wsX80 ++ wsX20)
def wsX8_weigh : List Cond := .code yX8_weigh cX8_weigh 6 (some .int) :: ([.fieldLink RX8 16 "OrphanWave$Stories" "behind" "[J", .constantLong RX8 32 (1000000000000), .methodLink RX8 24 yX8_weightBehind, .instanceMethod yX8_weightBehind, .selects RX8 yX8_weightBehind yX8_weightBehind, .initialized RX8, .code yX8_weightBehind cX8_weightBehind 5 (some .long), .fieldLink RX8 11 "OrphanWave$Stories" "chances" "[[I", .fieldLink RX8 20 "OrphanWave$Stories" "found" "LOrphanWave$Findings;", .static yX11_commonPart, .initialized RX11, .code yX11_commonPart cX11_commonPart 11 (some .long)] ++ wsX80 ++ wsX20)
def wsX8_settle : List Cond := .code yX8_settle cX8_settle 2 none :: ([.fieldLink RX8 16 "OrphanWave$Stories" "behind" "[J", .fieldLink RX8 20 "OrphanWave$Stories" "found" "LOrphanWave$Findings;", .methodLink RX8 39 arraycopyName, .native arraycopyName, .static arraycopyName, .initialized "java/lang/System"] ++ wsX80 ++ wsX20)
def wsX8_greatestBehind : List Cond := .code yX8_greatestBehind cX8_greatestBehind 6 (some .long) :: ([.methodLink RX8 49 Lib.MathLoose.max_long.x, .static Lib.MathLoose.max_long.x, .initialized "java/lang/Math", .code Lib.MathLoose.max_long.x Lib.MathLoose.max_long.code 4 (some .long), .methodLink RX8 24 yX8_weightBehind, .instanceMethod yX8_weightBehind, .selects RX8 yX8_weightBehind yX8_weightBehind, .initialized RX8, .code yX8_weightBehind cX8_weightBehind 5 (some .long), .fieldLink RX8 11 "OrphanWave$Stories" "chances" "[[I", .fieldLink RX8 20 "OrphanWave$Stories" "found" "LOrphanWave$Findings;"] ++ wsX80 ++ wsX20)
def wsX8_bestMarsh : List Cond := .code yX8_bestMarsh cX8_bestMarsh 7 (some .int) :: ([.constantLong RX8 54 (-1), .fieldLink RX8 20 "OrphanWave$Stories" "found" "LOrphanWave$Findings;", .methodLink RX8 56 yX2_isDug, .instanceMethod yX2_isDug, .selects RX2 yX2_isDug yX2_isDug, .initialized RX2, .code yX2_isDug cX2_isDug 2 (some .boolean), .fieldLink RX2 52 "OrphanWave$Findings" "dugMarshes" "I", .methodLink RX8 60 yX8_greatestBehind, .instanceMethod yX8_greatestBehind, .selects RX8 yX8_greatestBehind yX8_greatestBehind, .initialized RX8, .code yX8_greatestBehind cX8_greatestBehind 6 (some .long), .methodLink RX8 49 Lib.MathLoose.max_long.x, .static Lib.MathLoose.max_long.x, .initialized "java/lang/Math", .code Lib.MathLoose.max_long.x Lib.MathLoose.max_long.code 4 (some .long), .methodLink RX8 24 yX8_weightBehind, .instanceMethod yX8_weightBehind, .selects RX8 yX8_weightBehind yX8_weightBehind, .code yX8_weightBehind cX8_weightBehind 5 (some .long), .fieldLink RX8 11 "OrphanWave$Stories" "chances" "[[I"] ++ wsX80 ++ wsX20)
def wsX8_part : List Cond := .code yX8_part cX8_part 7 (some .long) :: ([.fieldLink RX8 20 "OrphanWave$Stories" "found" "LOrphanWave$Findings;", .static yX11_commonPart, .initialized RX11, .code yX11_commonPart cX11_commonPart 11 (some .long)] ++ wsX80 ++ wsX20)
def wsX9_init : List Cond := .code yX9_init cX9_init 1 none :: ([.methodLink RX9 3 objectInit, .instanceMethod objectInit, .code objectInit ⟨#[0xb1]⟩ 1 none, .arrayClass .byte, .fieldLink RX9 9 "OrphanWave$Text" "bytes" "[B"] ++ wsX90)
def wsX9_append : List Cond := .code yX9_append cX9_append 2 none :: ([.fieldLink RX9 15 "OrphanWave$Text" "length" "I", .fieldLink RX9 9 "OrphanWave$Text" "bytes" "[B"] ++ wsX90)
def wsX9_empty : List Cond := .code yX9_empty cX9_empty 2 (some .int) :: ([.fieldLink RX9 15 "OrphanWave$Text" "length" "I"] ++ wsX90)
def wsX10_init : List Cond := .code yX10_init cX10_init 1 none :: ([.methodLink RX10 3 objectInit, .instanceMethod objectInit, .code objectInit ⟨#[0xb1]⟩ 1 none, .arrayClass .int, .fieldLink RX10 9 "OrphanWave$Trees" "livingRings" "[I", .classLink RX10 15 "[[I", .fieldLink RX10 17 "OrphanWave$Trees" "woodRings" "[[I", .fieldLink RX10 20 "OrphanWave$Trees" "woodCounts" "[I", .fieldLink RX10 23 "OrphanWave$Trees" "ends" "[I", .fieldLink RX10 26 "OrphanWave$Trees" "firstYear" "I"] ++ wsX100)
def wsX10_grow : List Cond := .code yX10_grow cX10_grow 2 (some .int) :: ([.fieldLink RX10 9 "OrphanWave$Trees" "livingRings" "[I", .fieldLink RX10 30 "OrphanWave$Trees" "livingCount" "I"] ++ wsX100)
def wsX10_plant : List Cond := .code yX10_plant cX10_plant 3 (some .int) :: ([.fieldLink RX10 30 "OrphanWave$Trees" "livingCount" "I", .fieldLink RX10 26 "OrphanWave$Trees" "firstYear" "I"] ++ wsX100)
def wsX10_growWood : List Cond := .code yX10_growWood cX10_growWood 3 (some .int) :: ([.fieldLink RX10 17 "OrphanWave$Trees" "woodRings" "[[I", .fieldLink RX10 20 "OrphanWave$Trees" "woodCounts" "[I"] ++ wsX100)
def wsX10_startWood : List Cond := .code yX10_startWood cX10_startWood 4 (some .int) :: ([.fieldLink RX10 20 "OrphanWave$Trees" "woodCounts" "[I", .fieldLink RX10 23 "OrphanWave$Trees" "ends" "[I"] ++ wsX100)
def wsX10_lies : List Cond := .code yX10_lies cX10_lies 3 (some .boolean) :: ([.fieldLink RX10 20 "OrphanWave$Trees" "woodCounts" "[I", .fieldLink RX10 30 "OrphanWave$Trees" "livingCount" "I", .static yX11_within, .initialized RX11, .code yX11_within cX11_within 3 (some .boolean)] ++ wsX100)
def wsJ6_compare_7cf53 : List Cond := .code yJ6_compare_7cf53 cJ6_compare_7cf53 2 (some .int) :: ([])
def wsX10_likeness : List Cond := .code yX10_likeness cX10_likeness 6 (some .int) :: ([.fieldLink RX10 20 "OrphanWave$Trees" "woodCounts" "[I", .fieldLink RX10 17 "OrphanWave$Trees" "woodRings" "[[I", .fieldLink RX10 9 "OrphanWave$Trees" "livingRings" "[I", .methodLink RX10 37 yJ6_compare_7cf53, .static yJ6_compare_7cf53, .initialized RJ6, .code yJ6_compare_7cf53 cJ6_compare_7cf53 2 (some .int)] ++ wsX100)
def wsX10_laidOn : List Cond := .code yX10_laidOn cX10_laidOn 6 (some .int) :: ([.fieldLink RX10 20 "OrphanWave$Trees" "woodCounts" "[I", .fieldLink RX10 30 "OrphanWave$Trees" "livingCount" "I", .methodLink RX10 43 yX10_likeness, .instanceMethod yX10_likeness, .selects RX10 yX10_likeness yX10_likeness, .initialized RX10, .code yX10_likeness cX10_likeness 6 (some .int), .fieldLink RX10 17 "OrphanWave$Trees" "woodRings" "[[I", .fieldLink RX10 9 "OrphanWave$Trees" "livingRings" "[I", .methodLink RX10 37 yJ6_compare_7cf53, .static yJ6_compare_7cf53, .initialized RJ6, .code yJ6_compare_7cf53 cJ6_compare_7cf53 2 (some .int)] ++ wsX100)
def wsX10_lastYear : List Cond := .code yX10_lastYear cX10_lastYear 3 (some .int) :: ([.fieldLink RX10 26 "OrphanWave$Trees" "firstYear" "I", .fieldLink RX10 20 "OrphanWave$Trees" "woodCounts" "[I"] ++ wsX100)
def wsX10_sharedDeath : List Cond := .code yX10_sharedDeath cX10_sharedDeath 5 (some .int) :: ([.fieldLink RX10 23 "OrphanWave$Trees" "ends" "[I", .methodLink RX10 46 yX10_laidOn, .instanceMethod yX10_laidOn, .selects RX10 yX10_laidOn yX10_laidOn, .initialized RX10, .code yX10_laidOn cX10_laidOn 6 (some .int), .fieldLink RX10 20 "OrphanWave$Trees" "woodCounts" "[I", .fieldLink RX10 30 "OrphanWave$Trees" "livingCount" "I", .methodLink RX10 43 yX10_likeness, .instanceMethod yX10_likeness, .selects RX10 yX10_likeness yX10_likeness, .code yX10_likeness cX10_likeness 6 (some .int), .fieldLink RX10 17 "OrphanWave$Trees" "woodRings" "[[I", .fieldLink RX10 9 "OrphanWave$Trees" "livingRings" "[I", .methodLink RX10 37 yJ6_compare_7cf53, .static yJ6_compare_7cf53, .initialized RJ6, .code yJ6_compare_7cf53 cJ6_compare_7cf53 2 (some .int), .methodLink RX10 50 yX10_lastYear, .instanceMethod yX10_lastYear, .selects RX10 yX10_lastYear yX10_lastYear, .code yX10_lastYear cX10_lastYear 3 (some .int), .fieldLink RX10 26 "OrphanWave$Trees" "firstYear" "I"] ++ wsX100)
def wsX11_init_r1 : List Cond := [Cond.methodLink RX11 3 objectInit, Cond.instanceMethod objectInit, Cond.code objectInit ⟨#[0xb1]⟩ 1 none, Cond.classLink RX11 9 RX9, Cond.instantiable RX9 2, Cond.initialized RX9, Cond.fieldLink RX11 12 "OrphanWave" "text" "LOrphanWave$Text;", Cond.classLink RX11 16 RX4, Cond.instantiable RX4 5, Cond.initialized RX4, Cond.fieldLink RX11 19 "OrphanWave" "ocean" "LOrphanWave$Ocean;", Cond.classLink RX11 23 RX10, Cond.instantiable RX10 6, Cond.initialized RX10, Cond.fieldLink RX11 26 "OrphanWave" "trees" "LOrphanWave$Trees;", Cond.classLink RX11 30 RX2, Cond.instantiable RX2 6, Cond.initialized RX2, Cond.fieldLink RX11 33 "OrphanWave" "found" "LOrphanWave$Findings;", Cond.fieldLink RX11 37 "OrphanWave" "images" "[LOrphanWave$Findings;", Cond.classLink RX11 41 RX5, Cond.instantiable RX5 3, Cond.initialized RX5, Cond.fieldLink RX11 50 "OrphanWave" "search" "LOrphanWave$Search;"]
def wsX11_init_r2 : List Cond := [Cond.classLink RX11 54 RX8, Cond.instantiable RX8 3, Cond.initialized RX8, Cond.fieldLink RX11 59 "OrphanWave" "stories" "LOrphanWave$Stories;", Cond.classLink RX11 63 RX7, Cond.instantiable RX7 2, Cond.initialized RX7, Cond.fieldLink RX11 66 "OrphanWave" "signs" "LOrphanWave$Signs;", Cond.classLink RX11 70 RX1, Cond.instantiable RX1 3, Cond.initialized RX1, Cond.fieldLink RX11 73 "OrphanWave" "calendar" "LOrphanWave$Calendar;", Cond.fieldLink RX11 77 "OrphanWave" "draft" "LOrphanWave$Calendar;", Cond.fieldLink RX11 80 "OrphanWave" "yearOfNow" "I", Cond.instanceMethod yX9_init, Cond.code yX9_init cX9_init 1 none, Cond.methodLink RX9 3 objectInit, Cond.arrayClass .byte, Cond.fieldLink RX9 9 "OrphanWave$Text" "bytes" "[B", Cond.instanceMethod yX4_init, Cond.code yX4_init cX4_init 1 none, Cond.methodLink RX4 3 objectInit, Cond.arrayClass .int, Cond.fieldLink RX4 9 "OrphanWave$Ocean" "depths" "[I"]
def wsX11_init_r3 : List Cond := [Cond.fieldLink RX4 15 "OrphanWave$Ocean" "figures" "[I", Cond.fieldLink RX4 18 "OrphanWave$Ocean" "times" "[I", Cond.fieldLink RX4 21 "OrphanWave$Ocean" "pace" "I", Cond.fieldLink RX4 25 "OrphanWave$Ocean" "fade" "I", Cond.instanceMethod yX10_init, Cond.code yX10_init cX10_init 1 none, Cond.methodLink RX10 3 objectInit, Cond.fieldLink RX10 9 "OrphanWave$Trees" "livingRings" "[I", Cond.classLink RX10 15 "[[I", Cond.fieldLink RX10 17 "OrphanWave$Trees" "woodRings" "[[I", Cond.fieldLink RX10 20 "OrphanWave$Trees" "woodCounts" "[I", Cond.fieldLink RX10 23 "OrphanWave$Trees" "ends" "[I", Cond.fieldLink RX10 26 "OrphanWave$Trees" "firstYear" "I", Cond.instanceMethod yX2_init, Cond.code yX2_init cX2_init 1 none, Cond.methodLink RX2 3 objectInit, Cond.classLink RX2 9 RX0, Cond.instantiable RX0 6, Cond.initialized RX0, Cond.fieldLink RX2 12 "OrphanWave$Findings" "books" "LOrphanWave$Books;", Cond.classLink RX2 18 RX6, Cond.instantiable RX6 4, Cond.initialized RX6, Cond.fieldLink RX2 21 "OrphanWave$Findings" "sheets" "LOrphanWave$Sheets;"]
def wsX11_init_r4 : List Cond := [Cond.classLink RX2 25 RX3, Cond.instantiable RX3 2, Cond.initialized RX3, Cond.fieldLink RX2 28 "OrphanWave$Findings" "known" "LOrphanWave$KnownSlips;", Cond.arrayClass .long, Cond.fieldLink RX2 32 "OrphanWave$Findings" "weights" "[J", Cond.instanceMethod yX0_init, Cond.code yX0_init cX0_init 1 none, Cond.methodLink RX0 3 objectInit, Cond.fieldLink RX0 9 "OrphanWave$Books" "cells" "[I", Cond.fieldLink RX0 15 "OrphanWave$Books" "froms" "[I", Cond.fieldLink RX0 18 "OrphanWave$Books" "tos" "[I", Cond.fieldLink RX0 21 "OrphanWave$Books" "lows" "[I", Cond.fieldLink RX0 24 "OrphanWave$Books" "highs" "[I", Cond.instanceMethod yX6_init, Cond.code yX6_init cX6_init 1 none, Cond.methodLink RX6 3 objectInit, Cond.fieldLink RX6 9 "OrphanWave$Sheets" "marshes" "[I", Cond.fieldLink RX6 15 "OrphanWave$Sheets" "olds" "[I", Cond.fieldLink RX6 18 "OrphanWave$Sheets" "youngs" "[I", Cond.instanceMethod yX3_init, Cond.code yX3_init cX3_init 1 none, Cond.methodLink RX3 3 objectInit, Cond.fieldLink RX3 9 "OrphanWave$KnownSlips" "years" "[I"]
def wsX11_init_r5 : List Cond := [Cond.methodLink RX11 47 yX5_init, Cond.instanceMethod yX5_init, Cond.code yX5_init cX5_init 3 none, Cond.methodLink RX5 3 objectInit, Cond.classLink RX5 9 "[[I", Cond.fieldLink RX5 11 "OrphanWave$Search" "times" "[[I", Cond.fieldLink RX5 16 "OrphanWave$Search" "ocean" "LOrphanWave$Ocean;", Cond.fieldLink RX5 20 "OrphanWave$Search" "books" "LOrphanWave$Books;", Cond.methodLink RX11 56 yX8_init, Cond.instanceMethod yX8_init, Cond.code yX8_init cX8_init 4 none, Cond.methodLink RX8 3 objectInit, Cond.classLink RX8 9 "[[I", Cond.fieldLink RX8 11 "OrphanWave$Stories" "chances" "[[I", Cond.fieldLink RX8 16 "OrphanWave$Stories" "behind" "[J", Cond.fieldLink RX8 20 "OrphanWave$Stories" "found" "LOrphanWave$Findings;", Cond.methodLink RX11 65 yX7_init, Cond.instanceMethod yX7_init, Cond.code yX7_init cX7_init 2 none, Cond.methodLink RX7 1 objectInit, Cond.fieldLink RX7 7 "OrphanWave$Signs" "found" "LOrphanWave$Findings;", Cond.instanceMethod yX1_init, Cond.code yX1_init cX1_init 1 none, Cond.methodLink RX1 3 objectInit]
def wsX11_init_r6 : List Cond := [Cond.classLink RX1 9 "[[I", Cond.fieldLink RX1 11 "OrphanWave$Calendar" "lengths" "[[I", Cond.fieldLink RX1 16 "OrphanWave$Calendar" "months" "[I"]
def wsX11_init : List Cond := .code yX11_init cX11_init 2 none :: ((wsX11_init_r1 ++ (wsX11_init_r2 ++ (wsX11_init_r3 ++ (wsX11_init_r4 ++ (wsX11_init_r5 ++ wsX11_init_r6))))) ++ wsX90 ++ wsX110 ++ wsX40 ++ wsX100 ++ wsX20 ++ wsX50 ++ wsX80 ++ wsX70 ++ wsX10 ++ wsX00 ++ wsX60 ++ wsX30)
def wsX11_type : List Cond := .code yX11_type cX11_type 5 (some .int) :: ([.fieldLink RX11 12 "OrphanWave" "text" "LOrphanWave$Text;", .methodLink RX11 84 yX11_within, .static yX11_within, .initialized RX11, .code yX11_within cX11_within 3 (some .boolean), .methodLink RX11 91 yX9_append, .instanceMethod yX9_append, .selects RX9 yX9_append yX9_append, .initialized RX9, .code yX9_append cX9_append 2 none, .fieldLink RX9 15 "OrphanWave$Text" "length" "I", .fieldLink RX9 9 "OrphanWave$Text" "bytes" "[B"] ++ wsX110 ++ wsX90)
def wsX11_clear : List Cond := .code yX11_clear cX11_clear 1 (some .int) :: ([.fieldLink RX11 12 "OrphanWave" "text" "LOrphanWave$Text;", .methodLink RX11 95 yX9_empty, .instanceMethod yX9_empty, .selects RX9 yX9_empty yX9_empty, .initialized RX9, .code yX9_empty cX9_empty 2 (some .int), .fieldLink RX9 15 "OrphanWave$Text" "length" "I"] ++ wsX110 ++ wsX90)
def wsX11_ocean_r1 : List Cond := [Cond.fieldLink RX11 19 "OrphanWave" "ocean" "LOrphanWave$Ocean;", Cond.fieldLink RX11 12 "OrphanWave" "text" "LOrphanWave$Text;", Cond.methodLink RX11 99 yX4_become, Cond.instanceMethod yX4_become, Cond.selects RX4 yX4_become yX4_become, Cond.initialized RX4, Cond.code yX4_become cX4_become 3 (some .int), Cond.fieldLink RX4 15 "OrphanWave$Ocean" "figures" "[I", Cond.fieldLink RX4 9 "OrphanWave$Ocean" "depths" "[I", Cond.methodLink RX4 36 arraycopyName, Cond.native arraycopyName, Cond.static arraycopyName, Cond.initialized "java/lang/System", Cond.methodLink RX4 32 yX4_read, Cond.instanceMethod yX4_read, Cond.selects RX4 yX4_read yX4_read, Cond.code yX4_read cX4_read 5 (some .int), Cond.methodLink RX4 47 yX9_byteAt, Cond.instanceMethod yX9_byteAt, Cond.selects RX9 yX9_byteAt yX9_byteAt, Cond.initialized RX9, Cond.code yX9_byteAt cX9_byteAt 2 (some .int), Cond.fieldLink RX9 15 "OrphanWave$Text" "length" "I", Cond.fieldLink RX9 9 "OrphanWave$Text" "bytes" "[B"]
def wsX11_ocean_r2 : List Cond := [Cond.methodLink RX4 51 yX9_isFigure, Cond.instanceMethod yX9_isFigure, Cond.selects RX9 yX9_isFigure yX9_isFigure, Cond.code yX9_isFigure cX9_isFigure 3 (some .boolean), Cond.methodLink RX9 19 yX9_byteAt, Cond.methodLink RX11 95 yX9_empty, Cond.instanceMethod yX9_empty, Cond.selects RX9 yX9_empty yX9_empty, Cond.code yX9_empty cX9_empty 2 (some .int), Cond.methodLink RX11 103 yX4_seaCells, Cond.instanceMethod yX4_seaCells, Cond.selects RX4 yX4_seaCells yX4_seaCells, Cond.code yX4_seaCells cX4_seaCells 3 (some .int)]
def wsX11_ocean : List Cond := .code yX11_ocean cX11_ocean 2 (some .int) :: ((wsX11_ocean_r1 ++ wsX11_ocean_r2) ++ wsX110 ++ wsX40 ++ wsX90)
def wsX11_depth : List Cond := .code yX11_depth cX11_depth 2 (some .int) :: ([.fieldLink RX11 19 "OrphanWave" "ocean" "LOrphanWave$Ocean;", .methodLink RX11 106 yX11_isCell, .static yX11_isCell, .initialized RX11, .code yX11_isCell cX11_isCell 1 (some .boolean), .methodLink RX11 84 yX11_within, .static yX11_within, .code yX11_within cX11_within 3 (some .boolean)] ++ wsX110 ++ wsX40)
def wsX11_isYear : List Cond := .code yX11_isYear cX11_isYear 1 (some .boolean) :: ([.methodLink RX11 84 yX11_within, .static yX11_within, .initialized RX11, .code yX11_within cX11_within 3 (some .boolean)])
def wsX11_tune : List Cond := .code yX11_tune cX11_tune 4 (some .int) :: ([.fieldLink RX11 19 "OrphanWave" "ocean" "LOrphanWave$Ocean;", .fieldLink RX11 80 "OrphanWave" "yearOfNow" "I", .methodLink RX11 84 yX11_within, .static yX11_within, .initialized RX11, .code yX11_within cX11_within 3 (some .boolean), .methodLink RX11 120 yX11_isYear, .static yX11_isYear, .code yX11_isYear cX11_isYear 1 (some .boolean)] ++ wsX110 ++ wsX40)
def wsX11_time_r1 : List Cond := [Cond.fieldLink RX11 19 "OrphanWave" "ocean" "LOrphanWave$Ocean;", Cond.methodLink RX11 106 yX11_isCell, Cond.static yX11_isCell, Cond.initialized RX11, Cond.code yX11_isCell cX11_isCell 1 (some .boolean), Cond.methodLink RX11 84 yX11_within, Cond.static yX11_within, Cond.code yX11_within cX11_within 3 (some .boolean), Cond.methodLink RX11 123 yX4_travel, Cond.instanceMethod yX4_travel, Cond.selects RX4 yX4_travel yX4_travel, Cond.initialized RX4, Cond.code yX4_travel cX4_travel 3 (some .int), Cond.fieldLink RX4 18 "OrphanWave$Ocean" "times" "[I", Cond.methodLink RX4 54 yX4_measureTo, Cond.instanceMethod yX4_measureTo, Cond.selects RX4 yX4_measureTo yX4_measureTo, Cond.code yX4_measureTo cX4_measureTo 5 none, Cond.fieldLink RX4 9 "OrphanWave$Ocean" "depths" "[I", Cond.methodLink RX4 58 yX4_sweep, Cond.instanceMethod yX4_sweep, Cond.selects RX4 yX4_sweep yX4_sweep, Cond.code yX4_sweep cX4_sweep 5 (some .boolean), Cond.methodLink RX4 62 yX4_shorten]
def wsX11_time_r2 : List Cond := [Cond.instanceMethod yX4_shorten, Cond.selects RX4 yX4_shorten yX4_shorten, Cond.code yX4_shorten cX4_shorten 5 (some .boolean), Cond.fieldLink RX4 21 "OrphanWave$Ocean" "pace" "I"]
def wsX11_time : List Cond := .code yX11_time cX11_time 3 (some .int) :: ((wsX11_time_r1 ++ wsX11_time_r2) ++ wsX110 ++ wsX40)
def wsX11_isSize : List Cond := .code yX11_isSize cX11_isSize 1 (some .boolean) :: ([.methodLink RX11 84 yX11_within, .static yX11_within, .initialized RX11, .code yX11_within cX11_within 3 (some .boolean)])
def wsX11_height_r1 : List Cond := [Cond.fieldLink RX11 19 "OrphanWave" "ocean" "LOrphanWave$Ocean;", Cond.methodLink RX11 106 yX11_isCell, Cond.static yX11_isCell, Cond.initialized RX11, Cond.code yX11_isCell cX11_isCell 1 (some .boolean), Cond.methodLink RX11 84 yX11_within, Cond.static yX11_within, Cond.code yX11_within cX11_within 3 (some .boolean), Cond.methodLink RX11 127 yX11_isSize, Cond.static yX11_isSize, Cond.code yX11_isSize cX11_isSize 1 (some .boolean), Cond.methodLink RX11 123 yX4_travel, Cond.instanceMethod yX4_travel, Cond.selects RX4 yX4_travel yX4_travel, Cond.initialized RX4, Cond.code yX4_travel cX4_travel 3 (some .int), Cond.fieldLink RX4 18 "OrphanWave$Ocean" "times" "[I", Cond.methodLink RX4 54 yX4_measureTo, Cond.instanceMethod yX4_measureTo, Cond.selects RX4 yX4_measureTo yX4_measureTo, Cond.code yX4_measureTo cX4_measureTo 5 none, Cond.fieldLink RX4 9 "OrphanWave$Ocean" "depths" "[I", Cond.methodLink RX4 58 yX4_sweep, Cond.instanceMethod yX4_sweep]
def wsX11_height_r2 : List Cond := [Cond.selects RX4 yX4_sweep yX4_sweep, Cond.code yX4_sweep cX4_sweep 5 (some .boolean), Cond.methodLink RX4 62 yX4_shorten, Cond.instanceMethod yX4_shorten, Cond.selects RX4 yX4_shorten yX4_shorten, Cond.code yX4_shorten cX4_shorten 5 (some .boolean), Cond.fieldLink RX4 21 "OrphanWave$Ocean" "pace" "I", Cond.methodLink RX11 130 yX4_swell, Cond.instanceMethod yX4_swell, Cond.selects RX4 yX4_swell yX4_swell, Cond.code yX4_swell cX4_swell 6 (some .int), Cond.fieldLink RX4 25 "OrphanWave$Ocean" "fade" "I"]
def wsX11_height : List Cond := .code yX11_height cX11_height 4 (some .int) :: ((wsX11_height_r1 ++ wsX11_height_r2) ++ wsX110 ++ wsX40)
def wsX11_isSpan : List Cond := .code yX11_isSpan cX11_isSpan 4 (some .boolean) :: ([])
def wsX11_book_r1 : List Cond := [Cond.fieldLink RX11 19 "OrphanWave" "ocean" "LOrphanWave$Ocean;", Cond.fieldLink RX11 33 "OrphanWave" "found" "LOrphanWave$Findings;", Cond.methodLink RX11 134 yX4_isSea, Cond.instanceMethod yX4_isSea, Cond.selects RX4 yX4_isSea yX4_isSea, Cond.initialized RX4, Cond.code yX4_isSea cX4_isSea 2 (some .boolean), Cond.fieldLink RX4 9 "OrphanWave$Ocean" "depths" "[I", Cond.static yX11_isCell, Cond.initialized RX11, Cond.code yX11_isCell cX11_isCell 1 (some .boolean), Cond.methodLink RX11 84 yX11_within, Cond.static yX11_within, Cond.code yX11_within cX11_within 3 (some .boolean), Cond.methodLink RX11 137 yX11_isSpan, Cond.static yX11_isSpan, Cond.code yX11_isSpan cX11_isSpan 4 (some .boolean), Cond.methodLink RX11 146 yX0_add, Cond.instanceMethod yX0_add, Cond.selects RX0 yX0_add yX0_add, Cond.initialized RX0, Cond.code yX0_add cX0_add 6 (some .int), Cond.fieldLink RX0 9 "OrphanWave$Books" "cells" "[I", Cond.fieldLink RX0 27 "OrphanWave$Books" "count" "I"]
def wsX11_book_r2 : List Cond := [Cond.fieldLink RX0 15 "OrphanWave$Books" "froms" "[I", Cond.fieldLink RX0 18 "OrphanWave$Books" "tos" "[I", Cond.fieldLink RX0 21 "OrphanWave$Books" "lows" "[I", Cond.fieldLink RX0 24 "OrphanWave$Books" "highs" "[I"]
def wsX11_book : List Cond := .code yX11_book cX11_book 6 (some .int) :: ((wsX11_book_r1 ++ wsX11_book_r2) ++ wsX110 ++ wsX20 ++ wsX00 ++ wsX40)
def wsX11_begins_r1 : List Cond := [Cond.fieldLink RX11 19 "OrphanWave" "ocean" "LOrphanWave$Ocean;", Cond.fieldLink RX11 33 "OrphanWave" "found" "LOrphanWave$Findings;", Cond.fieldLink RX11 50 "OrphanWave" "search" "LOrphanWave$Search;", Cond.methodLink RX11 134 yX4_isSea, Cond.instanceMethod yX4_isSea, Cond.selects RX4 yX4_isSea yX4_isSea, Cond.initialized RX4, Cond.code yX4_isSea cX4_isSea 2 (some .boolean), Cond.fieldLink RX4 9 "OrphanWave$Ocean" "depths" "[I", Cond.static yX11_isCell, Cond.initialized RX11, Cond.code yX11_isCell cX11_isCell 1 (some .boolean), Cond.methodLink RX11 84 yX11_within, Cond.static yX11_within, Cond.code yX11_within cX11_within 3 (some .boolean), Cond.methodLink RX11 127 yX11_isSize, Cond.static yX11_isSize, Cond.code yX11_isSize cX11_isSize 1 (some .boolean), Cond.methodLink RX11 150 yX5_measure, Cond.instanceMethod yX5_measure, Cond.selects RX5 yX5_measure yX5_measure, Cond.initialized RX5, Cond.code yX5_measure cX5_measure 2 none, Cond.fieldLink RX5 20 "OrphanWave$Search" "books" "LOrphanWave$Books;"]
def wsX11_begins_r2 : List Cond := [Cond.fieldLink RX5 16 "OrphanWave$Search" "ocean" "LOrphanWave$Ocean;", Cond.fieldLink RX5 11 "OrphanWave$Search" "times" "[[I", Cond.methodLink RX5 34 yX4_measureTo, Cond.instanceMethod yX4_measureTo, Cond.selects RX4 yX4_measureTo yX4_measureTo, Cond.code yX4_measureTo cX4_measureTo 5 none, Cond.methodLink RX4 58 yX4_sweep, Cond.instanceMethod yX4_sweep, Cond.selects RX4 yX4_sweep yX4_sweep, Cond.code yX4_sweep cX4_sweep 5 (some .boolean), Cond.methodLink RX4 62 yX4_shorten, Cond.instanceMethod yX4_shorten, Cond.selects RX4 yX4_shorten yX4_shorten, Cond.code yX4_shorten cX4_shorten 5 (some .boolean), Cond.fieldLink RX4 21 "OrphanWave$Ocean" "pace" "I", Cond.methodLink RX11 153 yX5_beginsOf, Cond.instanceMethod yX5_beginsOf, Cond.selects RX5 yX5_beginsOf yX5_beginsOf, Cond.code yX5_beginsOf cX5_beginsOf 3 (some .int), Cond.methodLink RX5 55 yX5_heightsFit, Cond.instanceMethod yX5_heightsFit, Cond.selects RX5 yX5_heightsFit yX5_heightsFit, Cond.code yX5_heightsFit cX5_heightsFit 5 (some .boolean), Cond.methodLink RX5 77 yX4_swell]
def wsX11_begins_r3 : List Cond := [Cond.instanceMethod yX4_swell, Cond.selects RX4 yX4_swell yX4_swell, Cond.code yX4_swell cX4_swell 6 (some .int), Cond.fieldLink RX4 25 "OrphanWave$Ocean" "fade" "I", Cond.methodLink RX5 59 yX5_beginsByHours, Cond.instanceMethod yX5_beginsByHours, Cond.selects RX5 yX5_beginsByHours yX5_beginsByHours, Cond.code yX5_beginsByHours cX5_beginsByHours 2 (some .int), Cond.methodLink RX5 43 Lib.Math.max.name, Cond.static Lib.Math.max.name, Cond.initialized "java/lang/Math", Cond.code Lib.Math.max.name Lib.Math.max.code 2 (some .int), Cond.methodLink RX5 67 yX5_comesToAll, Cond.instanceMethod yX5_comesToAll, Cond.selects RX5 yX5_comesToAll yX5_comesToAll, Cond.code yX5_comesToAll cX5_comesToAll 3 (some .boolean), Cond.methodLink RX5 71 yX5_latestBegin, Cond.instanceMethod yX5_latestBegin, Cond.selects RX5 yX5_latestBegin yX5_latestBegin, Cond.code yX5_latestBegin cX5_latestBegin 4 (some .int), Cond.methodLink RX5 52 Lib.Math.min.name, Cond.static Lib.Math.min.name, Cond.code Lib.Math.min.name Lib.Math.min.code 2 (some .int), Cond.methodLink RX5 74 yX5_earliestBegin]
def wsX11_begins_r4 : List Cond := [Cond.instanceMethod yX5_earliestBegin, Cond.selects RX5 yX5_earliestBegin yX5_earliestBegin, Cond.code yX5_earliestBegin cX5_earliestBegin 4 (some .int)]
def wsX11_begins : List Cond := .code yX11_begins cX11_begins 3 (some .int) :: ((wsX11_begins_r1 ++ (wsX11_begins_r2 ++ (wsX11_begins_r3 ++ wsX11_begins_r4))) ++ wsX110 ++ wsX20 ++ wsX00 ++ wsX40 ++ wsX50)
def wsX11_ways_r1 : List Cond := [Cond.fieldLink RX11 19 "OrphanWave" "ocean" "LOrphanWave$Ocean;", Cond.fieldLink RX11 33 "OrphanWave" "found" "LOrphanWave$Findings;", Cond.fieldLink RX11 50 "OrphanWave" "search" "LOrphanWave$Search;", Cond.methodLink RX11 134 yX4_isSea, Cond.instanceMethod yX4_isSea, Cond.selects RX4 yX4_isSea yX4_isSea, Cond.initialized RX4, Cond.code yX4_isSea cX4_isSea 2 (some .boolean), Cond.fieldLink RX4 9 "OrphanWave$Ocean" "depths" "[I", Cond.static yX11_isCell, Cond.initialized RX11, Cond.code yX11_isCell cX11_isCell 1 (some .boolean), Cond.methodLink RX11 84 yX11_within, Cond.static yX11_within, Cond.code yX11_within cX11_within 3 (some .boolean), Cond.methodLink RX11 150 yX5_measure, Cond.instanceMethod yX5_measure, Cond.selects RX5 yX5_measure yX5_measure, Cond.initialized RX5, Cond.code yX5_measure cX5_measure 2 none, Cond.fieldLink RX5 20 "OrphanWave$Search" "books" "LOrphanWave$Books;", Cond.fieldLink RX5 16 "OrphanWave$Search" "ocean" "LOrphanWave$Ocean;", Cond.fieldLink RX5 11 "OrphanWave$Search" "times" "[[I", Cond.methodLink RX5 34 yX4_measureTo]
def wsX11_ways_r2 : List Cond := [Cond.instanceMethod yX4_measureTo, Cond.selects RX4 yX4_measureTo yX4_measureTo, Cond.code yX4_measureTo cX4_measureTo 5 none, Cond.methodLink RX4 58 yX4_sweep, Cond.instanceMethod yX4_sweep, Cond.selects RX4 yX4_sweep yX4_sweep, Cond.code yX4_sweep cX4_sweep 5 (some .boolean), Cond.methodLink RX4 62 yX4_shorten, Cond.instanceMethod yX4_shorten, Cond.selects RX4 yX4_shorten yX4_shorten, Cond.code yX4_shorten cX4_shorten 5 (some .boolean), Cond.fieldLink RX4 21 "OrphanWave$Ocean" "pace" "I", Cond.methodLink RX11 156 yX5_allWays, Cond.instanceMethod yX5_allWays, Cond.selects RX5 yX5_allWays yX5_allWays, Cond.code yX5_allWays cX5_allWays 3 (some .int), Cond.methodLink RX5 63 yX5_waysOf, Cond.instanceMethod yX5_waysOf, Cond.selects RX5 yX5_waysOf yX5_waysOf, Cond.code yX5_waysOf cX5_waysOf 5 (some .int), Cond.methodLink RX5 59 yX5_beginsByHours, Cond.instanceMethod yX5_beginsByHours, Cond.selects RX5 yX5_beginsByHours yX5_beginsByHours, Cond.code yX5_beginsByHours cX5_beginsByHours 2 (some .int)]
def wsX11_ways_r3 : List Cond := [Cond.methodLink RX5 43 Lib.Math.max.name, Cond.static Lib.Math.max.name, Cond.initialized "java/lang/Math", Cond.code Lib.Math.max.name Lib.Math.max.code 2 (some .int), Cond.methodLink RX5 67 yX5_comesToAll, Cond.instanceMethod yX5_comesToAll, Cond.selects RX5 yX5_comesToAll yX5_comesToAll, Cond.code yX5_comesToAll cX5_comesToAll 3 (some .boolean), Cond.methodLink RX5 71 yX5_latestBegin, Cond.instanceMethod yX5_latestBegin, Cond.selects RX5 yX5_latestBegin yX5_latestBegin, Cond.code yX5_latestBegin cX5_latestBegin 4 (some .int), Cond.methodLink RX5 52 Lib.Math.min.name, Cond.static Lib.Math.min.name, Cond.code Lib.Math.min.name Lib.Math.min.code 2 (some .int), Cond.methodLink RX5 74 yX5_earliestBegin, Cond.instanceMethod yX5_earliestBegin, Cond.selects RX5 yX5_earliestBegin yX5_earliestBegin, Cond.code yX5_earliestBegin cX5_earliestBegin 4 (some .int), Cond.methodLink RX5 55 yX5_heightsFit, Cond.instanceMethod yX5_heightsFit, Cond.selects RX5 yX5_heightsFit yX5_heightsFit, Cond.code yX5_heightsFit cX5_heightsFit 5 (some .boolean), Cond.methodLink RX5 77 yX4_swell]
def wsX11_ways_r4 : List Cond := [Cond.instanceMethod yX4_swell, Cond.selects RX4 yX4_swell yX4_swell, Cond.code yX4_swell cX4_swell 6 (some .int), Cond.fieldLink RX4 25 "OrphanWave$Ocean" "fade" "I", Cond.methodLink RX11 159 yX5_waysOf]
def wsX11_ways : List Cond := .code yX11_ways cX11_ways 2 (some .int) :: ((wsX11_ways_r1 ++ (wsX11_ways_r2 ++ (wsX11_ways_r3 ++ wsX11_ways_r4))) ++ wsX110 ++ wsX20 ++ wsX00 ++ wsX40 ++ wsX50)
def wsX11_whence_r1 : List Cond := [Cond.fieldLink RX11 33 "OrphanWave" "found" "LOrphanWave$Findings;", Cond.constant RX11 163 (-1000000), Cond.fieldLink RX11 50 "OrphanWave" "search" "LOrphanWave$Search;", Cond.methodLink RX11 84 yX11_within, Cond.static yX11_within, Cond.initialized RX11, Cond.code yX11_within cX11_within 3 (some .boolean), Cond.methodLink RX11 150 yX5_measure, Cond.instanceMethod yX5_measure, Cond.selects RX5 yX5_measure yX5_measure, Cond.initialized RX5, Cond.code yX5_measure cX5_measure 2 none, Cond.fieldLink RX5 20 "OrphanWave$Search" "books" "LOrphanWave$Books;", Cond.fieldLink RX5 16 "OrphanWave$Search" "ocean" "LOrphanWave$Ocean;", Cond.fieldLink RX5 11 "OrphanWave$Search" "times" "[[I", Cond.methodLink RX5 34 yX4_measureTo, Cond.instanceMethod yX4_measureTo, Cond.selects RX4 yX4_measureTo yX4_measureTo, Cond.initialized RX4, Cond.code yX4_measureTo cX4_measureTo 5 none, Cond.fieldLink RX4 9 "OrphanWave$Ocean" "depths" "[I", Cond.methodLink RX4 58 yX4_sweep, Cond.instanceMethod yX4_sweep, Cond.selects RX4 yX4_sweep yX4_sweep]
def wsX11_whence_r2 : List Cond := [Cond.code yX4_sweep cX4_sweep 5 (some .boolean), Cond.methodLink RX4 62 yX4_shorten, Cond.instanceMethod yX4_shorten, Cond.selects RX4 yX4_shorten yX4_shorten, Cond.code yX4_shorten cX4_shorten 5 (some .boolean), Cond.fieldLink RX4 21 "OrphanWave$Ocean" "pace" "I", Cond.methodLink RX11 164 yX5_likeliestCell, Cond.instanceMethod yX5_likeliestCell, Cond.selects RX5 yX5_likeliestCell yX5_likeliestCell, Cond.code yX5_likeliestCell cX5_likeliestCell 5 (some .int), Cond.methodLink RX5 63 yX5_waysOf, Cond.instanceMethod yX5_waysOf, Cond.selects RX5 yX5_waysOf yX5_waysOf, Cond.code yX5_waysOf cX5_waysOf 5 (some .int), Cond.methodLink RX5 59 yX5_beginsByHours, Cond.instanceMethod yX5_beginsByHours, Cond.selects RX5 yX5_beginsByHours yX5_beginsByHours, Cond.code yX5_beginsByHours cX5_beginsByHours 2 (some .int), Cond.methodLink RX5 43 Lib.Math.max.name, Cond.static Lib.Math.max.name, Cond.initialized "java/lang/Math", Cond.code Lib.Math.max.name Lib.Math.max.code 2 (some .int), Cond.methodLink RX5 67 yX5_comesToAll, Cond.instanceMethod yX5_comesToAll]
def wsX11_whence_r3 : List Cond := [Cond.selects RX5 yX5_comesToAll yX5_comesToAll, Cond.code yX5_comesToAll cX5_comesToAll 3 (some .boolean), Cond.methodLink RX5 71 yX5_latestBegin, Cond.instanceMethod yX5_latestBegin, Cond.selects RX5 yX5_latestBegin yX5_latestBegin, Cond.code yX5_latestBegin cX5_latestBegin 4 (some .int), Cond.methodLink RX5 52 Lib.Math.min.name, Cond.static Lib.Math.min.name, Cond.code Lib.Math.min.name Lib.Math.min.code 2 (some .int), Cond.methodLink RX5 74 yX5_earliestBegin, Cond.instanceMethod yX5_earliestBegin, Cond.selects RX5 yX5_earliestBegin yX5_earliestBegin, Cond.code yX5_earliestBegin cX5_earliestBegin 4 (some .int), Cond.methodLink RX5 55 yX5_heightsFit, Cond.instanceMethod yX5_heightsFit, Cond.selects RX5 yX5_heightsFit yX5_heightsFit, Cond.code yX5_heightsFit cX5_heightsFit 5 (some .boolean), Cond.methodLink RX5 77 yX4_swell, Cond.instanceMethod yX4_swell, Cond.selects RX4 yX4_swell yX4_swell, Cond.code yX4_swell cX4_swell 6 (some .int), Cond.fieldLink RX4 25 "OrphanWave$Ocean" "fade" "I", Cond.methodLink RX11 167 yX5_leastSize, Cond.instanceMethod yX5_leastSize]
def wsX11_whence_r4 : List Cond := [Cond.selects RX5 yX5_leastSize yX5_leastSize, Cond.code yX5_leastSize cX5_leastSize 3 (some .int), Cond.constant RX5 66 (-1000000), Cond.methodLink RX11 170 yX5_greatestSize, Cond.instanceMethod yX5_greatestSize, Cond.selects RX5 yX5_greatestSize yX5_greatestSize, Cond.code yX5_greatestSize cX5_greatestSize 3 (some .int), Cond.methodLink RX11 173 yX5_earliestBegin, Cond.methodLink RX11 176 yX5_latestBegin]
def wsX11_whence : List Cond := .code yX11_whence cX11_whence 3 (some .int) :: ((wsX11_whence_r1 ++ (wsX11_whence_r2 ++ (wsX11_whence_r3 ++ wsX11_whence_r4))) ++ wsX110 ++ wsX20 ++ wsX00 ++ wsX50 ++ wsX40)
def wsX11_calendar_r1 : List Cond := [Cond.fieldLink RX11 77 "OrphanWave" "draft" "LOrphanWave$Calendar;", Cond.fieldLink RX11 12 "OrphanWave" "text" "LOrphanWave$Text;", Cond.fieldLink RX11 73 "OrphanWave" "calendar" "LOrphanWave$Calendar;", Cond.methodLink RX11 179 yX1_become, Cond.instanceMethod yX1_become, Cond.selects RX1 yX1_become yX1_become, Cond.initialized RX1, Cond.code yX1_become cX1_become 5 (some .int), Cond.fieldLink RX1 20 "OrphanWave$Calendar" "years" "I", Cond.methodLink RX1 33 Lib.Math.max.name, Cond.static Lib.Math.max.name, Cond.initialized "java/lang/Math", Cond.code Lib.Math.max.name Lib.Math.max.code 2 (some .int), Cond.methodLink RX1 29 yX9_figuresEnd, Cond.instanceMethod yX9_figuresEnd, Cond.selects RX9 yX9_figuresEnd yX9_figuresEnd, Cond.initialized RX9, Cond.code yX9_figuresEnd cX9_figuresEnd 3 (some .int), Cond.fieldLink RX9 15 "OrphanWave$Text" "length" "I", Cond.methodLink RX9 23 yX9_isFigure, Cond.instanceMethod yX9_isFigure, Cond.selects RX9 yX9_isFigure yX9_isFigure, Cond.code yX9_isFigure cX9_isFigure 3 (some .boolean), Cond.methodLink RX9 19 yX9_byteAt]
def wsX11_calendar_r2 : List Cond := [Cond.instanceMethod yX9_byteAt, Cond.selects RX9 yX9_byteAt yX9_byteAt, Cond.code yX9_byteAt cX9_byteAt 2 (some .int), Cond.fieldLink RX9 9 "OrphanWave$Text" "bytes" "[B", Cond.methodLink RX1 39 yX9_byteAt, Cond.methodLink RX1 42 yX1_endsYear, Cond.instanceMethod yX1_endsYear, Cond.selects RX1 yX1_endsYear yX1_endsYear, Cond.code yX1_endsYear cX1_endsYear 2 (some .boolean), Cond.fieldLink RX1 16 "OrphanWave$Calendar" "months" "[I", Cond.methodLink RX1 46 yX1_lengthAt, Cond.static yX1_lengthAt, Cond.code yX1_lengthAt cX1_lengthAt 4 (some .int), Cond.methodLink RX1 54 yX9_isFigure, Cond.methodLink RX1 50 yX1_takesMonth, Cond.instanceMethod yX1_takesMonth, Cond.selects RX1 yX1_takesMonth yX1_takesMonth, Cond.code yX1_takesMonth cX1_takesMonth 3 (some .boolean), Cond.fieldLink RX1 11 "OrphanWave$Calendar" "lengths" "[[I", Cond.methodLink RX11 95 yX9_empty, Cond.instanceMethod yX9_empty, Cond.selects RX9 yX9_empty yX9_empty, Cond.code yX9_empty cX9_empty 2 (some .int)]
def wsX11_calendar : List Cond := .code yX11_calendar cX11_calendar 3 (some .int) :: ((wsX11_calendar_r1 ++ wsX11_calendar_r2) ++ wsX110 ++ wsX10 ++ wsX90)
def wsX11_clock : List Cond := .code yX11_clock cX11_clock 5 (some .int) :: ([.fieldLink RX11 73 "OrphanWave" "calendar" "LOrphanWave$Calendar;", .constant RX11 163 (-1000000), .methodLink RX11 183 yX1_hasDay, .instanceMethod yX1_hasDay, .selects RX1 yX1_hasDay yX1_hasDay, .initialized RX1, .code yX1_hasDay cX1_hasDay 4 (some .boolean), .fieldLink RX1 20 "OrphanWave$Calendar" "years" "I", .fieldLink RX1 16 "OrphanWave$Calendar" "months" "[I", .fieldLink RX1 11 "OrphanWave$Calendar" "lengths" "[[I", .static yX11_within, .initialized RX11, .code yX11_within cX11_within 3 (some .boolean), .methodLink RX11 84 yX11_within, .methodLink RX11 186 yX1_daysAhead, .instanceMethod yX1_daysAhead, .selects RX1 yX1_daysAhead yX1_daysAhead, .code yX1_daysAhead cX1_daysAhead 6 (some .int), .methodLink RX1 61 yX1_daysOf, .instanceMethod yX1_daysOf, .selects RX1 yX1_daysOf yX1_daysOf, .code yX1_daysOf cX1_daysOf 5 (some .int)] ++ wsX110 ++ wsX10)
def wsX11_told_r1 : List Cond := [Cond.constant RX11 163 (-1000000), Cond.constantLong RX11 189 (60), Cond.constantLong RX11 191 (1440), Cond.fieldLink RX11 73 "OrphanWave" "calendar" "LOrphanWave$Calendar;", Cond.constantLong RX11 196 (120), Cond.methodLink RX11 84 yX11_within, Cond.static yX11_within, Cond.initialized RX11, Cond.code yX11_within cX11_within 3 (some .boolean), Cond.methodLink RX11 193 yX1_allDays, Cond.instanceMethod yX1_allDays, Cond.selects RX1 yX1_allDays yX1_allDays, Cond.initialized RX1, Cond.code yX1_allDays cX1_allDays 3 (some .int), Cond.fieldLink RX1 20 "OrphanWave$Calendar" "years" "I", Cond.fieldLink RX1 16 "OrphanWave$Calendar" "months" "[I", Cond.methodLink RX1 61 yX1_daysOf, Cond.instanceMethod yX1_daysOf, Cond.selects RX1 yX1_daysOf yX1_daysOf, Cond.code yX1_daysOf cX1_daysOf 5 (some .int), Cond.fieldLink RX1 11 "OrphanWave$Calendar" "lengths" "[[I", Cond.methodLink RX11 198 yX1_partOfDay, Cond.instanceMethod yX1_partOfDay, Cond.selects RX1 yX1_partOfDay yX1_partOfDay]
def wsX11_told_r2 : List Cond := [Cond.code yX1_partOfDay cX1_partOfDay 6 (some .int), Cond.constant RX1 64 (-1000000)]
def wsX11_told : List Cond := .code yX11_told cX11_told 7 (some .int) :: ((wsX11_told_r1 ++ wsX11_told_r2) ++ wsX110 ++ wsX10)
def wsX11_isWidth : List Cond := .code yX11_isWidth cX11_isWidth 1 (some .boolean) :: ([.methodLink RX11 84 yX11_within, .static yX11_within, .initialized RX11, .code yX11_within cX11_within 3 (some .boolean)])
def wsX11_ring : List Cond := .code yX11_ring cX11_ring 2 (some .int) :: ([.fieldLink RX11 26 "OrphanWave" "trees" "LOrphanWave$Trees;", .methodLink RX11 201 yX11_isWidth, .static yX11_isWidth, .initialized RX11, .code yX11_isWidth cX11_isWidth 1 (some .boolean), .methodLink RX11 84 yX11_within, .static yX11_within, .code yX11_within cX11_within 3 (some .boolean), .methodLink RX11 207 yX10_grow, .instanceMethod yX10_grow, .selects RX10 yX10_grow yX10_grow, .initialized RX10, .code yX10_grow cX10_grow 2 (some .int), .fieldLink RX10 9 "OrphanWave$Trees" "livingRings" "[I", .fieldLink RX10 30 "OrphanWave$Trees" "livingCount" "I"] ++ wsX110 ++ wsX100)
def wsX11_living : List Cond := .code yX11_living cX11_living 2 (some .int) :: ([.fieldLink RX11 26 "OrphanWave" "trees" "LOrphanWave$Trees;", .methodLink RX11 120 yX11_isYear, .static yX11_isYear, .initialized RX11, .code yX11_isYear cX11_isYear 1 (some .boolean), .methodLink RX11 84 yX11_within, .static yX11_within, .code yX11_within cX11_within 3 (some .boolean), .methodLink RX11 210 yX10_plant, .instanceMethod yX10_plant, .selects RX10 yX10_plant yX10_plant, .initialized RX10, .code yX10_plant cX10_plant 3 (some .int), .fieldLink RX10 30 "OrphanWave$Trees" "livingCount" "I", .fieldLink RX10 26 "OrphanWave$Trees" "firstYear" "I"] ++ wsX110 ++ wsX100)
def wsX11_isWood : List Cond := .code yX11_isWood cX11_isWood 1 (some .boolean) :: ([.methodLink RX11 84 yX11_within, .static yX11_within, .initialized RX11, .code yX11_within cX11_within 3 (some .boolean)])
def wsX11_wood : List Cond := .code yX11_wood cX11_wood 3 (some .int) :: ([.fieldLink RX11 26 "OrphanWave" "trees" "LOrphanWave$Trees;", .methodLink RX11 213 yX11_isWood, .static yX11_isWood, .initialized RX11, .code yX11_isWood cX11_isWood 1 (some .boolean), .methodLink RX11 84 yX11_within, .static yX11_within, .code yX11_within cX11_within 3 (some .boolean), .methodLink RX11 201 yX11_isWidth, .static yX11_isWidth, .code yX11_isWidth cX11_isWidth 1 (some .boolean), .methodLink RX11 219 yX10_growWood, .instanceMethod yX10_growWood, .selects RX10 yX10_growWood yX10_growWood, .initialized RX10, .code yX10_growWood cX10_growWood 3 (some .int), .fieldLink RX10 17 "OrphanWave$Trees" "woodRings" "[[I", .fieldLink RX10 20 "OrphanWave$Trees" "woodCounts" "[I"] ++ wsX110 ++ wsX100)
def wsX11_isBit : List Cond := .code yX11_isBit cX11_isBit 1 (some .boolean) :: ([])
def wsX11_felled : List Cond := .code yX11_felled cX11_felled 3 (some .int) :: ([.fieldLink RX11 26 "OrphanWave" "trees" "LOrphanWave$Trees;", .methodLink RX11 213 yX11_isWood, .static yX11_isWood, .initialized RX11, .code yX11_isWood cX11_isWood 1 (some .boolean), .methodLink RX11 84 yX11_within, .static yX11_within, .code yX11_within cX11_within 3 (some .boolean), .methodLink RX11 222 yX11_isBit, .static yX11_isBit, .code yX11_isBit cX11_isBit 1 (some .boolean), .methodLink RX11 225 yX10_startWood, .instanceMethod yX10_startWood, .selects RX10 yX10_startWood yX10_startWood, .initialized RX10, .code yX10_startWood cX10_startWood 4 (some .int), .fieldLink RX10 20 "OrphanWave$Trees" "woodCounts" "[I", .fieldLink RX10 23 "OrphanWave$Trees" "ends" "[I"] ++ wsX110 ++ wsX100)
def wsX11_like_r1 : List Cond := [Cond.fieldLink RX11 26 "OrphanWave" "trees" "LOrphanWave$Trees;", Cond.methodLink RX11 213 yX11_isWood, Cond.static yX11_isWood, Cond.initialized RX11, Cond.code yX11_isWood cX11_isWood 1 (some .boolean), Cond.methodLink RX11 84 yX11_within, Cond.static yX11_within, Cond.code yX11_within cX11_within 3 (some .boolean), Cond.methodLink RX11 228 yX10_lies, Cond.instanceMethod yX10_lies, Cond.selects RX10 yX10_lies yX10_lies, Cond.initialized RX10, Cond.code yX10_lies cX10_lies 3 (some .boolean), Cond.fieldLink RX10 20 "OrphanWave$Trees" "woodCounts" "[I", Cond.fieldLink RX10 30 "OrphanWave$Trees" "livingCount" "I", Cond.methodLink RX11 232 yX10_likeness, Cond.instanceMethod yX10_likeness, Cond.selects RX10 yX10_likeness yX10_likeness, Cond.code yX10_likeness cX10_likeness 6 (some .int), Cond.fieldLink RX10 17 "OrphanWave$Trees" "woodRings" "[[I", Cond.fieldLink RX10 9 "OrphanWave$Trees" "livingRings" "[I", Cond.methodLink RX10 37 yJ6_compare_7cf53, Cond.static yJ6_compare_7cf53, Cond.initialized RJ6]
def wsX11_like_r2 : List Cond := [Cond.code yJ6_compare_7cf53 cJ6_compare_7cf53 2 (some .int)]
def wsX11_like : List Cond := .code yX11_like cX11_like 3 (some .int) :: ((wsX11_like_r1 ++ wsX11_like_r2) ++ wsX110 ++ wsX100)
def wsX11_died_r1 : List Cond := [Cond.fieldLink RX11 26 "OrphanWave" "trees" "LOrphanWave$Trees;", Cond.methodLink RX11 213 yX11_isWood, Cond.static yX11_isWood, Cond.initialized RX11, Cond.code yX11_isWood cX11_isWood 1 (some .boolean), Cond.methodLink RX11 84 yX11_within, Cond.static yX11_within, Cond.code yX11_within cX11_within 3 (some .boolean), Cond.methodLink RX11 235 yX10_laidOn, Cond.instanceMethod yX10_laidOn, Cond.selects RX10 yX10_laidOn yX10_laidOn, Cond.initialized RX10, Cond.code yX10_laidOn cX10_laidOn 6 (some .int), Cond.fieldLink RX10 20 "OrphanWave$Trees" "woodCounts" "[I", Cond.fieldLink RX10 30 "OrphanWave$Trees" "livingCount" "I", Cond.methodLink RX10 43 yX10_likeness, Cond.instanceMethod yX10_likeness, Cond.selects RX10 yX10_likeness yX10_likeness, Cond.code yX10_likeness cX10_likeness 6 (some .int), Cond.fieldLink RX10 17 "OrphanWave$Trees" "woodRings" "[[I", Cond.fieldLink RX10 9 "OrphanWave$Trees" "livingRings" "[I", Cond.methodLink RX10 37 yJ6_compare_7cf53, Cond.static yJ6_compare_7cf53, Cond.initialized RJ6]
def wsX11_died_r2 : List Cond := [Cond.code yJ6_compare_7cf53 cJ6_compare_7cf53 2 (some .int), Cond.methodLink RX11 238 yX10_lastYear, Cond.instanceMethod yX10_lastYear, Cond.selects RX10 yX10_lastYear yX10_lastYear, Cond.code yX10_lastYear cX10_lastYear 3 (some .int), Cond.fieldLink RX10 26 "OrphanWave$Trees" "firstYear" "I"]
def wsX11_died : List Cond := .code yX11_died cX11_died 4 (some .int) :: ((wsX11_died_r1 ++ wsX11_died_r2) ++ wsX110 ++ wsX100)
def wsX11_alike_r1 : List Cond := [Cond.fieldLink RX11 26 "OrphanWave" "trees" "LOrphanWave$Trees;", Cond.methodLink RX11 244 yX10_sharedDeath, Cond.instanceMethod yX10_sharedDeath, Cond.selects RX10 yX10_sharedDeath yX10_sharedDeath, Cond.initialized RX10, Cond.code yX10_sharedDeath cX10_sharedDeath 5 (some .int), Cond.fieldLink RX10 23 "OrphanWave$Trees" "ends" "[I", Cond.methodLink RX10 46 yX10_laidOn, Cond.instanceMethod yX10_laidOn, Cond.selects RX10 yX10_laidOn yX10_laidOn, Cond.code yX10_laidOn cX10_laidOn 6 (some .int), Cond.fieldLink RX10 20 "OrphanWave$Trees" "woodCounts" "[I", Cond.fieldLink RX10 30 "OrphanWave$Trees" "livingCount" "I", Cond.methodLink RX10 43 yX10_likeness, Cond.instanceMethod yX10_likeness, Cond.selects RX10 yX10_likeness yX10_likeness, Cond.code yX10_likeness cX10_likeness 6 (some .int), Cond.fieldLink RX10 17 "OrphanWave$Trees" "woodRings" "[[I", Cond.fieldLink RX10 9 "OrphanWave$Trees" "livingRings" "[I", Cond.methodLink RX10 37 yJ6_compare_7cf53, Cond.static yJ6_compare_7cf53, Cond.initialized RJ6, Cond.code yJ6_compare_7cf53 cJ6_compare_7cf53 2 (some .int), Cond.methodLink RX10 50 yX10_lastYear]
def wsX11_alike_r2 : List Cond := [Cond.instanceMethod yX10_lastYear, Cond.selects RX10 yX10_lastYear yX10_lastYear, Cond.code yX10_lastYear cX10_lastYear 3 (some .int), Cond.fieldLink RX10 26 "OrphanWave$Trees" "firstYear" "I"]
def wsX11_alike : List Cond := .code yX11_alike cX11_alike 1 (some .int) :: ((wsX11_alike_r1 ++ wsX11_alike_r2) ++ wsX110 ++ wsX100)
def wsX11_isMarsh : List Cond := .code yX11_isMarsh cX11_isMarsh 1 (some .boolean) :: ([.methodLink RX11 84 yX11_within, .static yX11_within, .initialized RX11, .code yX11_within cX11_within 3 (some .boolean)])
def wsX11_sheet : List Cond := .code yX11_sheet cX11_sheet 4 (some .int) :: ([.fieldLink RX11 33 "OrphanWave" "found" "LOrphanWave$Findings;", .methodLink RX11 247 yX11_isMarsh, .static yX11_isMarsh, .initialized RX11, .code yX11_isMarsh cX11_isMarsh 1 (some .boolean), .methodLink RX11 84 yX11_within, .static yX11_within, .code yX11_within cX11_within 3 (some .boolean), .methodLink RX11 137 yX11_isSpan, .static yX11_isSpan, .code yX11_isSpan cX11_isSpan 4 (some .boolean), .methodLink RX11 257 yX6_add, .instanceMethod yX6_add, .selects RX6 yX6_add yX6_add, .initialized RX6, .code yX6_add cX6_add 4 (some .int), .fieldLink RX6 9 "OrphanWave$Sheets" "marshes" "[I", .fieldLink RX6 21 "OrphanWave$Sheets" "count" "I", .fieldLink RX6 15 "OrphanWave$Sheets" "olds" "[I", .fieldLink RX6 18 "OrphanWave$Sheets" "youngs" "[I"] ++ wsX110 ++ wsX20 ++ wsX60)
def wsX11_together_r1 : List Cond := [Cond.fieldLink RX11 33 "OrphanWave" "found" "LOrphanWave$Findings;", Cond.methodLink RX11 259 yX6_all, Cond.instanceMethod yX6_all, Cond.selects RX6 yX6_all yX6_all, Cond.initialized RX6, Cond.code yX6_all cX6_all 1 (some .int), Cond.fieldLink RX6 21 "OrphanWave$Sheets" "count" "I", Cond.methodLink RX11 222 yX11_isBit, Cond.static yX11_isBit, Cond.initialized RX11, Cond.code yX11_isBit cX11_isBit 1 (some .boolean), Cond.methodLink RX11 262 yX6_firstShared, Cond.instanceMethod yX6_firstShared, Cond.selects RX6 yX6_firstShared yX6_firstShared, Cond.code yX6_firstShared cX6_firstShared 4 (some .int), Cond.fieldLink RX6 15 "OrphanWave$Sheets" "olds" "[I", Cond.methodLink RX6 31 Lib.Math.max.name, Cond.static Lib.Math.max.name, Cond.initialized "java/lang/Math", Cond.code Lib.Math.max.name Lib.Math.max.code 2 (some .int), Cond.methodLink RX11 265 yX6_lastShared, Cond.instanceMethod yX6_lastShared, Cond.selects RX6 yX6_lastShared yX6_lastShared, Cond.code yX6_lastShared cX6_lastShared 4 (some .int)]
def wsX11_together_r2 : List Cond := [Cond.fieldLink RX6 18 "OrphanWave$Sheets" "youngs" "[I", Cond.methodLink RX6 37 Lib.Math.min.name, Cond.static Lib.Math.min.name, Cond.code Lib.Math.min.name Lib.Math.min.code 2 (some .int)]
def wsX11_together : List Cond := .code yX11_together cX11_together 6 (some .int) :: ((wsX11_together_r1 ++ wsX11_together_r2) ++ wsX110 ++ wsX20 ++ wsX60)
def wsX11_slips_r1 : List Cond := [Cond.fieldLink RX11 33 "OrphanWave" "found" "LOrphanWave$Findings;", Cond.methodLink RX11 274 Lib.Math.max.name, Cond.static Lib.Math.max.name, Cond.initialized "java/lang/Math", Cond.code Lib.Math.max.name Lib.Math.max.code 2 (some .int), Cond.methodLink RX11 268 yX6_fewestYears, Cond.instanceMethod yX6_fewestYears, Cond.selects RX6 yX6_fewestYears yX6_fewestYears, Cond.initialized RX6, Cond.code yX6_fewestYears cX6_fewestYears 4 (some .int), Cond.methodLink RX6 51 yX6_all, Cond.instanceMethod yX6_all, Cond.selects RX6 yX6_all yX6_all, Cond.code yX6_all cX6_all 1 (some .int), Cond.fieldLink RX6 21 "OrphanWave$Sheets" "count" "I", Cond.methodLink RX6 55 yX6_lastShared, Cond.instanceMethod yX6_lastShared, Cond.selects RX6 yX6_lastShared yX6_lastShared, Cond.code yX6_lastShared cX6_lastShared 4 (some .int), Cond.fieldLink RX6 18 "OrphanWave$Sheets" "youngs" "[I", Cond.methodLink RX6 37 Lib.Math.min.name, Cond.static Lib.Math.min.name, Cond.code Lib.Math.min.name Lib.Math.min.code 2 (some .int), Cond.methodLink RX6 44 yX6_sheetsAt]
def wsX11_slips_r2 : List Cond := [Cond.instanceMethod yX6_sheetsAt, Cond.selects RX6 yX6_sheetsAt yX6_sheetsAt, Cond.code yX6_sheetsAt cX6_sheetsAt 4 (some .int), Cond.fieldLink RX6 15 "OrphanWave$Sheets" "olds" "[I", Cond.static yX11_within, Cond.initialized RX11, Cond.code yX11_within cX11_within 3 (some .boolean), Cond.methodLink RX11 271 yX6_mostOfOneMarsh, Cond.instanceMethod yX6_mostOfOneMarsh, Cond.selects RX6 yX6_mostOfOneMarsh yX6_mostOfOneMarsh, Cond.code yX6_mostOfOneMarsh cX6_mostOfOneMarsh 5 (some .int), Cond.fieldLink RX6 9 "OrphanWave$Sheets" "marshes" "[I", Cond.methodLink RX6 31 Lib.Math.max.name]
def wsX11_slips : List Cond := .code yX11_slips cX11_slips 1 (some .int) :: ((wsX11_slips_r1 ++ wsX11_slips_r2) ++ wsX110 ++ wsX20 ++ wsX60)
def wsX11_joined_r1 : List Cond := [Cond.fieldLink RX11 33 "OrphanWave" "found" "LOrphanWave$Findings;", Cond.methodLink RX11 120 yX11_isYear, Cond.static yX11_isYear, Cond.initialized RX11, Cond.code yX11_isYear cX11_isYear 1 (some .boolean), Cond.methodLink RX11 84 yX11_within, Cond.static yX11_within, Cond.code yX11_within cX11_within 3 (some .boolean), Cond.methodLink RX11 279 yX6_marshesAt, Cond.instanceMethod yX6_marshesAt, Cond.selects RX6 yX6_marshesAt yX6_marshesAt, Cond.initialized RX6, Cond.code yX6_marshesAt cX6_marshesAt 2 (some .int), Cond.methodLink RX6 44 yX6_sheetsAt, Cond.instanceMethod yX6_sheetsAt, Cond.selects RX6 yX6_sheetsAt yX6_sheetsAt, Cond.code yX6_sheetsAt cX6_sheetsAt 4 (some .int), Cond.fieldLink RX6 21 "OrphanWave$Sheets" "count" "I", Cond.fieldLink RX6 15 "OrphanWave$Sheets" "olds" "[I", Cond.fieldLink RX6 18 "OrphanWave$Sheets" "youngs" "[I", Cond.methodLink RX6 48 yX6_marshesOf, Cond.instanceMethod yX6_marshesOf, Cond.selects RX6 yX6_marshesOf yX6_marshesOf, Cond.code yX6_marshesOf cX6_marshesOf 4 (some .int)]
def wsX11_joined_r2 : List Cond := [Cond.fieldLink RX6 9 "OrphanWave$Sheets" "marshes" "[I"]
def wsX11_joined : List Cond := .code yX11_joined cX11_joined 2 (some .int) :: ((wsX11_joined_r1 ++ wsX11_joined_r2) ++ wsX110 ++ wsX20 ++ wsX60)
def wsX11_whole_r1 : List Cond := [Cond.fieldLink RX11 33 "OrphanWave" "found" "LOrphanWave$Findings;", Cond.methodLink RX11 222 yX11_isBit, Cond.static yX11_isBit, Cond.initialized RX11, Cond.code yX11_isBit cX11_isBit 1 (some .boolean), Cond.methodLink RX11 282 yX6_widestYear, Cond.instanceMethod yX6_widestYear, Cond.selects RX6 yX6_widestYear yX6_widestYear, Cond.initialized RX6, Cond.code yX6_widestYear cX6_widestYear 5 (some .int), Cond.fieldLink RX6 21 "OrphanWave$Sheets" "count" "I", Cond.fieldLink RX6 15 "OrphanWave$Sheets" "olds" "[I", Cond.methodLink RX6 58 yX6_marshesAt, Cond.instanceMethod yX6_marshesAt, Cond.selects RX6 yX6_marshesAt yX6_marshesAt, Cond.code yX6_marshesAt cX6_marshesAt 2 (some .int), Cond.methodLink RX6 44 yX6_sheetsAt, Cond.instanceMethod yX6_sheetsAt, Cond.selects RX6 yX6_sheetsAt yX6_sheetsAt, Cond.code yX6_sheetsAt cX6_sheetsAt 4 (some .int), Cond.fieldLink RX6 18 "OrphanWave$Sheets" "youngs" "[I", Cond.static yX11_within, Cond.code yX11_within cX11_within 3 (some .boolean), Cond.methodLink RX6 48 yX6_marshesOf]
def wsX11_whole_r2 : List Cond := [Cond.instanceMethod yX6_marshesOf, Cond.selects RX6 yX6_marshesOf yX6_marshesOf, Cond.code yX6_marshesOf cX6_marshesOf 4 (some .int), Cond.fieldLink RX6 9 "OrphanWave$Sheets" "marshes" "[I", Cond.methodLink RX6 61 yJ6_bitCount_0f7a4, Cond.static yJ6_bitCount_0f7a4, Cond.initialized RJ6, Cond.code yJ6_bitCount_0f7a4 cJ6_bitCount_0f7a4 1 (some .int), Cond.constant RJ6 265 (1431655765), Cond.constant RJ6 266 (858993459), Cond.constant RJ6 267 (252645135), Cond.methodLink RX11 279 yX6_marshesAt, Cond.methodLink RX11 285 yJ6_bitCount_0f7a4]
def wsX11_whole : List Cond := .code yX11_whole cX11_whole 3 (some .int) :: ((wsX11_whole_r1 ++ wsX11_whole_r2) ++ wsX110 ++ wsX20 ++ wsX60)
def wsX11_tale : List Cond := .code yX11_tale cX11_tale 6 (some .int) :: ([.constant RX11 163 (-1000000), .methodLink RX11 120 yX11_isYear, .static yX11_isYear, .initialized RX11, .code yX11_isYear cX11_isYear 1 (some .boolean), .methodLink RX11 84 yX11_within, .static yX11_within, .code yX11_within cX11_within 3 (some .boolean), .methodLink RX11 222 yX11_isBit, .static yX11_isBit, .code yX11_isBit cX11_isBit 1 (some .boolean), .methodLink RX11 137 yX11_isSpan, .static yX11_isSpan, .code yX11_isSpan cX11_isSpan 4 (some .boolean)])
def wsX11_known : List Cond := .code yX11_known cX11_known 2 (some .int) :: ([.fieldLink RX11 33 "OrphanWave" "found" "LOrphanWave$Findings;", .methodLink RX11 120 yX11_isYear, .static yX11_isYear, .initialized RX11, .code yX11_isYear cX11_isYear 1 (some .boolean), .methodLink RX11 84 yX11_within, .static yX11_within, .code yX11_within cX11_within 3 (some .boolean), .methodLink RX11 294 yX3_isLater, .instanceMethod yX3_isLater, .selects RX3 yX3_isLater yX3_isLater, .initialized RX3, .code yX3_isLater cX3_isLater 2 (some .boolean), .fieldLink RX3 15 "OrphanWave$KnownSlips" "count" "I", .fieldLink RX3 9 "OrphanWave$KnownSlips" "years" "[I", .methodLink RX11 300 yX3_add, .instanceMethod yX3_add, .selects RX3 yX3_add yX3_add, .code yX3_add cX3_add 2 (some .int)] ++ wsX110 ++ wsX20 ++ wsX30)
def wsX11_next : List Cond := .code yX11_next cX11_next 3 (some .int) :: ([.constant RX11 163 (-1000000), .fieldLink RX11 33 "OrphanWave" "found" "LOrphanWave$Findings;", .fieldLink RX11 80 "OrphanWave" "yearOfNow" "I", .methodLink RX11 84 yX11_within, .static yX11_within, .initialized RX11, .code yX11_within cX11_within 3 (some .boolean), .methodLink RX11 222 yX11_isBit, .static yX11_isBit, .code yX11_isBit cX11_isBit 1 (some .boolean), .methodLink RX11 302 yX3_outlook, .instanceMethod yX3_outlook, .selects RX3 yX3_outlook yX3_outlook, .initialized RX3, .code yX3_outlook cX3_outlook 8 (some .int), .fieldLink RX3 15 "OrphanWave$KnownSlips" "count" "I", .fieldLink RX3 9 "OrphanWave$KnownSlips" "years" "[I", .constant RX3 25 (-1000000), .methodLink RX3 26 yX3_gapsAbove, .instanceMethod yX3_gapsAbove, .selects RX3 yX3_gapsAbove yX3_gapsAbove, .code yX3_gapsAbove cX3_gapsAbove 4 (some .int), .static yX11_commonPart, .code yX11_commonPart cX11_commonPart 11 (some .long)] ++ wsX110 ++ wsX20 ++ wsX30)
def wsX11_even : List Cond := .code yX11_even cX11_even 1 (some .int) :: ([.fieldLink RX11 33 "OrphanWave" "found" "LOrphanWave$Findings;", .methodLink RX11 305 yX3_evenness, .instanceMethod yX3_evenness, .selects RX3 yX3_evenness yX3_evenness, .initialized RX3, .code yX3_evenness cX3_evenness 4 (some .int), .fieldLink RX3 15 "OrphanWave$KnownSlips" "count" "I", .fieldLink RX3 9 "OrphanWave$KnownSlips" "years" "[I", .methodLink RX3 34 Lib.Math.min.name, .static Lib.Math.min.name, .initialized "java/lang/Math", .code Lib.Math.min.name Lib.Math.min.code 2 (some .int), .methodLink RX3 40 Lib.Math.max.name, .static Lib.Math.max.name, .code Lib.Math.max.name Lib.Math.max.code 2 (some .int)] ++ wsX110 ++ wsX20 ++ wsX30)
def wsX11_isStory : List Cond := .code yX11_isStory cX11_isStory 1 (some .boolean) :: ([.methodLink RX11 84 yX11_within, .static yX11_within, .initialized RX11, .code yX11_within cX11_within 3 (some .boolean)])
def wsX11_story : List Cond := .code yX11_story cX11_story 5 (some .long) :: ([.constantLong RX11 311 (-1), .fieldLink RX11 33 "OrphanWave" "found" "LOrphanWave$Findings;", .methodLink RX11 308 yX11_isStory, .static yX11_isStory, .initialized RX11, .code yX11_isStory cX11_isStory 1 (some .boolean), .methodLink RX11 84 yX11_within, .static yX11_within, .code yX11_within cX11_within 3 (some .boolean)] ++ wsX110 ++ wsX20)
def wsX11_chance : List Cond := .code yX11_chance cX11_chance 5 (some .int) :: ([.fieldLink RX11 59 "OrphanWave" "stories" "LOrphanWave$Stories;", .methodLink RX11 308 yX11_isStory, .static yX11_isStory, .initialized RX11, .code yX11_isStory cX11_isStory 1 (some .boolean), .methodLink RX11 84 yX11_within, .static yX11_within, .code yX11_within cX11_within 3 (some .boolean), .methodLink RX11 247 yX11_isMarsh, .static yX11_isMarsh, .code yX11_isMarsh cX11_isMarsh 1 (some .boolean)] ++ wsX110 ++ wsX80)
def wsX11_dug_r1 : List Cond := [Cond.fieldLink RX11 33 "OrphanWave" "found" "LOrphanWave$Findings;", Cond.fieldLink RX11 59 "OrphanWave" "stories" "LOrphanWave$Stories;", Cond.methodLink RX11 247 yX11_isMarsh, Cond.static yX11_isMarsh, Cond.initialized RX11, Cond.code yX11_isMarsh cX11_isMarsh 1 (some .boolean), Cond.methodLink RX11 84 yX11_within, Cond.static yX11_within, Cond.code yX11_within cX11_within 3 (some .boolean), Cond.methodLink RX11 222 yX11_isBit, Cond.static yX11_isBit, Cond.code yX11_isBit cX11_isBit 1 (some .boolean), Cond.methodLink RX11 321 yX2_isDug, Cond.instanceMethod yX2_isDug, Cond.selects RX2 yX2_isDug yX2_isDug, Cond.initialized RX2, Cond.code yX2_isDug cX2_isDug 2 (some .boolean), Cond.fieldLink RX2 52 "OrphanWave$Findings" "dugMarshes" "I", Cond.methodLink RX11 324 yX8_weigh, Cond.instanceMethod yX8_weigh, Cond.selects RX8 yX8_weigh yX8_weigh, Cond.initialized RX8, Cond.code yX8_weigh cX8_weigh 6 (some .int), Cond.fieldLink RX8 16 "OrphanWave$Stories" "behind" "[J"]
def wsX11_dug_r2 : List Cond := [Cond.constantLong RX8 32 (1000000000000), Cond.methodLink RX8 24 yX8_weightBehind, Cond.instanceMethod yX8_weightBehind, Cond.selects RX8 yX8_weightBehind yX8_weightBehind, Cond.code yX8_weightBehind cX8_weightBehind 5 (some .long), Cond.fieldLink RX8 11 "OrphanWave$Stories" "chances" "[[I", Cond.fieldLink RX8 20 "OrphanWave$Stories" "found" "LOrphanWave$Findings;", Cond.static yX11_commonPart, Cond.code yX11_commonPart cX11_commonPart 11 (some .long), Cond.methodLink RX11 327 yX8_settle, Cond.instanceMethod yX8_settle, Cond.selects RX8 yX8_settle yX8_settle, Cond.code yX8_settle cX8_settle 2 none, Cond.methodLink RX8 39 arraycopyName, Cond.native arraycopyName, Cond.static arraycopyName, Cond.initialized "java/lang/System", Cond.methodLink RX11 331 yX2_dugCount, Cond.instanceMethod yX2_dugCount, Cond.selects RX2 yX2_dugCount yX2_dugCount, Cond.code yX2_dugCount cX2_dugCount 1 (some .int), Cond.methodLink RX2 56 yJ6_bitCount_0f7a4, Cond.static yJ6_bitCount_0f7a4, Cond.initialized RJ6]
def wsX11_dug_r3 : List Cond := [Cond.code yJ6_bitCount_0f7a4 cJ6_bitCount_0f7a4 1 (some .int), Cond.constant RJ6 265 (1431655765), Cond.constant RJ6 266 (858993459), Cond.constant RJ6 267 (252645135)]
def wsX11_dug : List Cond := .code yX11_dug cX11_dug 4 (some .int) :: ((wsX11_dug_r1 ++ (wsX11_dug_r2 ++ wsX11_dug_r3)) ++ wsX110 ++ wsX20 ++ wsX80)
def wsX11_believed : List Cond := .code yX11_believed cX11_believed 3 (some .long) :: ([.constantLong RX11 311 (-1), .fieldLink RX11 59 "OrphanWave" "stories" "LOrphanWave$Stories;", .methodLink RX11 308 yX11_isStory, .static yX11_isStory, .initialized RX11, .code yX11_isStory cX11_isStory 1 (some .boolean), .methodLink RX11 84 yX11_within, .static yX11_within, .code yX11_within cX11_within 3 (some .boolean), .methodLink RX11 222 yX11_isBit, .static yX11_isBit, .code yX11_isBit cX11_isBit 1 (some .boolean), .methodLink RX11 334 yX8_part, .instanceMethod yX8_part, .selects RX8 yX8_part yX8_part, .initialized RX8, .code yX8_part cX8_part 7 (some .long), .fieldLink RX8 20 "OrphanWave$Stories" "found" "LOrphanWave$Findings;", .static yX11_commonPart, .code yX11_commonPart cX11_commonPart 11 (some .long)] ++ wsX110 ++ wsX80 ++ wsX20)
def wsX11_dig_r1 : List Cond := [Cond.fieldLink RX11 59 "OrphanWave" "stories" "LOrphanWave$Stories;", Cond.methodLink RX11 338 yX8_bestMarsh, Cond.instanceMethod yX8_bestMarsh, Cond.selects RX8 yX8_bestMarsh yX8_bestMarsh, Cond.initialized RX8, Cond.code yX8_bestMarsh cX8_bestMarsh 7 (some .int), Cond.constantLong RX8 54 (-1), Cond.fieldLink RX8 20 "OrphanWave$Stories" "found" "LOrphanWave$Findings;", Cond.methodLink RX8 56 yX2_isDug, Cond.instanceMethod yX2_isDug, Cond.selects RX2 yX2_isDug yX2_isDug, Cond.initialized RX2, Cond.code yX2_isDug cX2_isDug 2 (some .boolean), Cond.fieldLink RX2 52 "OrphanWave$Findings" "dugMarshes" "I", Cond.methodLink RX8 60 yX8_greatestBehind, Cond.instanceMethod yX8_greatestBehind, Cond.selects RX8 yX8_greatestBehind yX8_greatestBehind, Cond.code yX8_greatestBehind cX8_greatestBehind 6 (some .long), Cond.methodLink RX8 49 Lib.MathLoose.max_long.x, Cond.static Lib.MathLoose.max_long.x, Cond.initialized "java/lang/Math", Cond.code Lib.MathLoose.max_long.x Lib.MathLoose.max_long.code 4 (some .long), Cond.methodLink RX8 24 yX8_weightBehind, Cond.instanceMethod yX8_weightBehind]
def wsX11_dig_r2 : List Cond := [Cond.selects RX8 yX8_weightBehind yX8_weightBehind, Cond.code yX8_weightBehind cX8_weightBehind 5 (some .long), Cond.fieldLink RX8 11 "OrphanWave$Stories" "chances" "[[I"]
def wsX11_dig : List Cond := .code yX11_dig cX11_dig 1 (some .int) :: ((wsX11_dig_r1 ++ wsX11_dig_r2) ++ wsX110 ++ wsX80 ++ wsX20)
def wsX11_minutes_r1 : List Cond := [Cond.fieldLink RX11 19 "OrphanWave" "ocean" "LOrphanWave$Ocean;", Cond.constant RX11 341 (16777215), Cond.methodLink RX11 134 yX4_isSea, Cond.instanceMethod yX4_isSea, Cond.selects RX4 yX4_isSea yX4_isSea, Cond.initialized RX4, Cond.code yX4_isSea cX4_isSea 2 (some .boolean), Cond.fieldLink RX4 9 "OrphanWave$Ocean" "depths" "[I", Cond.static yX11_isCell, Cond.initialized RX11, Cond.code yX11_isCell cX11_isCell 1 (some .boolean), Cond.methodLink RX11 84 yX11_within, Cond.static yX11_within, Cond.code yX11_within cX11_within 3 (some .boolean), Cond.methodLink RX11 342 yX4_soonest, Cond.instanceMethod yX4_soonest, Cond.selects RX4 yX4_soonest yX4_soonest, Cond.code yX4_soonest cX4_soonest 6 (some .int), Cond.fieldLink RX4 18 "OrphanWave$Ocean" "times" "[I", Cond.methodLink RX4 54 yX4_measureTo, Cond.instanceMethod yX4_measureTo, Cond.selects RX4 yX4_measureTo yX4_measureTo, Cond.code yX4_measureTo cX4_measureTo 5 none, Cond.methodLink RX4 58 yX4_sweep]
def wsX11_minutes_r2 : List Cond := [Cond.instanceMethod yX4_sweep, Cond.selects RX4 yX4_sweep yX4_sweep, Cond.code yX4_sweep cX4_sweep 5 (some .boolean), Cond.methodLink RX4 62 yX4_shorten, Cond.instanceMethod yX4_shorten, Cond.selects RX4 yX4_shorten yX4_shorten, Cond.code yX4_shorten cX4_shorten 5 (some .boolean), Cond.fieldLink RX4 21 "OrphanWave$Ocean" "pace" "I"]
def wsX11_minutes : List Cond := .code yX11_minutes cX11_minutes 4 (some .int) :: ((wsX11_minutes_r1 ++ wsX11_minutes_r2) ++ wsX110 ++ wsX40)
def wsX11_trust_r1 : List Cond := [Cond.fieldLink RX11 33 "OrphanWave" "found" "LOrphanWave$Findings;", Cond.constant RX11 163 (-1000000), Cond.fieldLink RX11 66 "OrphanWave" "signs" "LOrphanWave$Signs;", Cond.methodLink RX11 84 yX11_within, Cond.static yX11_within, Cond.initialized RX11, Cond.code yX11_within cX11_within 3 (some .boolean), Cond.methodLink RX11 346 yX7_asSign, Cond.instanceMethod yX7_asSign, Cond.selects RX7 yX7_asSign yX7_asSign, Cond.initialized RX7, Cond.code yX7_asSign cX7_asSign 2 (some .int), Cond.fieldLink RX7 13 "OrphanWave$Signs" "trace" "J", Cond.fieldLink RX7 7 "OrphanWave$Signs" "found" "LOrphanWave$Findings;", Cond.methodLink RX11 349 yX7_asSheet, Cond.instanceMethod yX7_asSheet, Cond.selects RX7 yX7_asSheet yX7_asSheet, Cond.code yX7_asSheet cX7_asSheet 2 (some .int), Cond.constantLong RX7 29 (10), Cond.methodLink RX7 31 yX7_asSign, Cond.methodLink RX7 35 yX6_companions, Cond.instanceMethod yX6_companions, Cond.selects RX6 yX6_companions yX6_companions, Cond.initialized RX6]
def wsX11_trust_r2 : List Cond := [Cond.code yX6_companions cX6_companions 4 (some .int), Cond.fieldLink RX6 21 "OrphanWave$Sheets" "count" "I", Cond.fieldLink RX6 15 "OrphanWave$Sheets" "olds" "[I", Cond.fieldLink RX6 18 "OrphanWave$Sheets" "youngs" "[I", Cond.methodLink RX11 352 yX7_asWritten, Cond.instanceMethod yX7_asWritten, Cond.selects RX7 yX7_asWritten yX7_asWritten, Cond.code yX7_asWritten cX7_asWritten 2 (some .int), Cond.constantLong RX7 38 (100), Cond.methodLink RX11 355 yX7_asSlid, Cond.instanceMethod yX7_asSlid, Cond.selects RX7 yX7_asSlid yX7_asSlid, Cond.code yX7_asSlid cX7_asSlid 3 (some .int), Cond.constantLong RX7 50 (1000), Cond.methodLink RX7 52 yX6_all, Cond.instanceMethod yX6_all, Cond.selects RX6 yX6_all yX6_all, Cond.code yX6_all cX6_all 1 (some .int), Cond.methodLink RX7 56 yX6_marshesOf, Cond.instanceMethod yX6_marshesOf, Cond.selects RX6 yX6_marshesOf yX6_marshesOf, Cond.code yX6_marshesOf cX6_marshesOf 4 (some .int), Cond.fieldLink RX6 9 "OrphanWave$Sheets" "marshes" "[I", Cond.methodLink RX7 59 yX7_asSheet]
def wsX11_trust_r3 : List Cond := [Cond.methodLink RX7 62 yJ6_bitCount_0f7a4, Cond.static yJ6_bitCount_0f7a4, Cond.initialized RJ6, Cond.code yJ6_bitCount_0f7a4 cJ6_bitCount_0f7a4 1 (some .int), Cond.constant RJ6 265 (1431655765), Cond.constant RJ6 266 (858993459), Cond.constant RJ6 267 (252645135), Cond.methodLink RX11 358 yX7_asTold, Cond.instanceMethod yX7_asTold, Cond.selects RX7 yX7_asTold yX7_asTold, Cond.code yX7_asTold cX7_asTold 2 (some .int), Cond.constantLong RX7 67 (10000), Cond.methodLink RX7 69 yX7_asWritten, Cond.methodLink RX11 361 yX7_asAged, Cond.instanceMethod yX7_asAged, Cond.selects RX7 yX7_asAged yX7_asAged, Cond.code yX7_asAged cX7_asAged 3 (some .int), Cond.constantLong RX7 72 (100000)]
def wsX11_trust : List Cond := .code yX11_trust cX11_trust 3 (some .int) :: ((wsX11_trust_r1 ++ (wsX11_trust_r2 ++ wsX11_trust_r3)) ++ wsX110 ++ wsX20 ++ wsX60 ++ wsX70 ++ wsX00)
def wsX11_isImage : List Cond := .code yX11_isImage cX11_isImage 1 (some .boolean) :: ([.methodLink RX11 84 yX11_within, .static yX11_within, .initialized RX11, .code yX11_within cX11_within 3 (some .boolean)])
def wsX11_keep_r1 : List Cond := [Cond.fieldLink RX11 37 "OrphanWave" "images" "[LOrphanWave$Findings;", Cond.fieldLink RX11 33 "OrphanWave" "found" "LOrphanWave$Findings;", Cond.methodLink RX11 364 yX11_isImage, Cond.static yX11_isImage, Cond.initialized RX11, Cond.code yX11_isImage cX11_isImage 1 (some .boolean), Cond.methodLink RX11 84 yX11_within, Cond.static yX11_within, Cond.code yX11_within cX11_within 3 (some .boolean), Cond.methodLink RX11 367 yX2_become, Cond.instanceMethod yX2_become, Cond.selects RX2 yX2_become yX2_become, Cond.initialized RX2, Cond.code yX2_become cX2_become 2 none, Cond.fieldLink RX2 12 "OrphanWave$Findings" "books" "LOrphanWave$Books;", Cond.fieldLink RX2 21 "OrphanWave$Findings" "sheets" "LOrphanWave$Sheets;", Cond.fieldLink RX2 28 "OrphanWave$Findings" "known" "LOrphanWave$KnownSlips;", Cond.fieldLink RX2 32 "OrphanWave$Findings" "weights" "[J", Cond.methodLink RX2 46 arraycopyName, Cond.native arraycopyName, Cond.static arraycopyName, Cond.initialized "java/lang/System", Cond.fieldLink RX2 52 "OrphanWave$Findings" "dugMarshes" "I", Cond.methodLink RX2 36 yX0_become]
def wsX11_keep_r2 : List Cond := [Cond.instanceMethod yX0_become, Cond.selects RX0 yX0_become yX0_become, Cond.initialized RX0, Cond.code yX0_become cX0_become 2 none, Cond.fieldLink RX0 9 "OrphanWave$Books" "cells" "[I", Cond.methodLink RX0 31 arraycopyName, Cond.fieldLink RX0 15 "OrphanWave$Books" "froms" "[I", Cond.fieldLink RX0 18 "OrphanWave$Books" "tos" "[I", Cond.fieldLink RX0 21 "OrphanWave$Books" "lows" "[I", Cond.fieldLink RX0 24 "OrphanWave$Books" "highs" "[I", Cond.fieldLink RX0 27 "OrphanWave$Books" "count" "I", Cond.methodLink RX2 40 yX6_become, Cond.instanceMethod yX6_become, Cond.selects RX6 yX6_become yX6_become, Cond.initialized RX6, Cond.code yX6_become cX6_become 2 none, Cond.fieldLink RX6 9 "OrphanWave$Sheets" "marshes" "[I", Cond.methodLink RX6 25 arraycopyName, Cond.fieldLink RX6 15 "OrphanWave$Sheets" "olds" "[I", Cond.fieldLink RX6 18 "OrphanWave$Sheets" "youngs" "[I", Cond.fieldLink RX6 21 "OrphanWave$Sheets" "count" "I", Cond.methodLink RX2 43 yX3_become, Cond.instanceMethod yX3_become, Cond.selects RX3 yX3_become yX3_become]
def wsX11_keep_r3 : List Cond := [Cond.initialized RX3, Cond.code yX3_become cX3_become 2 none, Cond.fieldLink RX3 9 "OrphanWave$KnownSlips" "years" "[I", Cond.methodLink RX3 19 arraycopyName, Cond.fieldLink RX3 15 "OrphanWave$KnownSlips" "count" "I"]
def wsX11_keep : List Cond := .code yX11_keep cX11_keep 2 (some .int) :: ((wsX11_keep_r1 ++ (wsX11_keep_r2 ++ wsX11_keep_r3)) ++ wsX110 ++ wsX20 ++ wsX60 ++ wsX00 ++ wsX30)
def wsX11_back_r1 : List Cond := [Cond.fieldLink RX11 37 "OrphanWave" "images" "[LOrphanWave$Findings;", Cond.fieldLink RX11 33 "OrphanWave" "found" "LOrphanWave$Findings;", Cond.methodLink RX11 364 yX11_isImage, Cond.static yX11_isImage, Cond.initialized RX11, Cond.code yX11_isImage cX11_isImage 1 (some .boolean), Cond.methodLink RX11 84 yX11_within, Cond.static yX11_within, Cond.code yX11_within cX11_within 3 (some .boolean), Cond.methodLink RX11 367 yX2_become, Cond.instanceMethod yX2_become, Cond.selects RX2 yX2_become yX2_become, Cond.initialized RX2, Cond.code yX2_become cX2_become 2 none, Cond.fieldLink RX2 12 "OrphanWave$Findings" "books" "LOrphanWave$Books;", Cond.fieldLink RX2 21 "OrphanWave$Findings" "sheets" "LOrphanWave$Sheets;", Cond.fieldLink RX2 28 "OrphanWave$Findings" "known" "LOrphanWave$KnownSlips;", Cond.fieldLink RX2 32 "OrphanWave$Findings" "weights" "[J", Cond.methodLink RX2 46 arraycopyName, Cond.native arraycopyName, Cond.static arraycopyName, Cond.initialized "java/lang/System", Cond.fieldLink RX2 52 "OrphanWave$Findings" "dugMarshes" "I", Cond.methodLink RX2 36 yX0_become]
def wsX11_back_r2 : List Cond := [Cond.instanceMethod yX0_become, Cond.selects RX0 yX0_become yX0_become, Cond.initialized RX0, Cond.code yX0_become cX0_become 2 none, Cond.fieldLink RX0 9 "OrphanWave$Books" "cells" "[I", Cond.methodLink RX0 31 arraycopyName, Cond.fieldLink RX0 15 "OrphanWave$Books" "froms" "[I", Cond.fieldLink RX0 18 "OrphanWave$Books" "tos" "[I", Cond.fieldLink RX0 21 "OrphanWave$Books" "lows" "[I", Cond.fieldLink RX0 24 "OrphanWave$Books" "highs" "[I", Cond.fieldLink RX0 27 "OrphanWave$Books" "count" "I", Cond.methodLink RX2 40 yX6_become, Cond.instanceMethod yX6_become, Cond.selects RX6 yX6_become yX6_become, Cond.initialized RX6, Cond.code yX6_become cX6_become 2 none, Cond.fieldLink RX6 9 "OrphanWave$Sheets" "marshes" "[I", Cond.methodLink RX6 25 arraycopyName, Cond.fieldLink RX6 15 "OrphanWave$Sheets" "olds" "[I", Cond.fieldLink RX6 18 "OrphanWave$Sheets" "youngs" "[I", Cond.fieldLink RX6 21 "OrphanWave$Sheets" "count" "I", Cond.methodLink RX2 43 yX3_become, Cond.instanceMethod yX3_become, Cond.selects RX3 yX3_become yX3_become]
def wsX11_back_r3 : List Cond := [Cond.initialized RX3, Cond.code yX3_become cX3_become 2 none, Cond.fieldLink RX3 9 "OrphanWave$KnownSlips" "years" "[I", Cond.methodLink RX3 19 arraycopyName, Cond.fieldLink RX3 15 "OrphanWave$KnownSlips" "count" "I"]
def wsX11_back : List Cond := .code yX11_back cX11_back 2 (some .int) :: ((wsX11_back_r1 ++ (wsX11_back_r2 ++ wsX11_back_r3)) ++ wsX110 ++ wsX20 ++ wsX60 ++ wsX00 ++ wsX30)
def wsX11_count : List Cond := .code yX11_count cX11_count 2 (some .int) :: ([.fieldLink RX11 19 "OrphanWave" "ocean" "LOrphanWave$Ocean;", .fieldLink RX11 33 "OrphanWave" "found" "LOrphanWave$Findings;", .fieldLink RX11 73 "OrphanWave" "calendar" "LOrphanWave$Calendar;", .fieldLink RX11 26 "OrphanWave" "trees" "LOrphanWave$Trees;", .fieldLink RX11 12 "OrphanWave" "text" "LOrphanWave$Text;", .methodLink RX11 103 yX4_seaCells, .instanceMethod yX4_seaCells, .selects RX4 yX4_seaCells yX4_seaCells, .initialized RX4, .code yX4_seaCells cX4_seaCells 3 (some .int), .fieldLink RX4 9 "OrphanWave$Ocean" "depths" "[I", .methodLink RX11 331 yX2_dugCount, .instanceMethod yX2_dugCount, .selects RX2 yX2_dugCount yX2_dugCount, .initialized RX2, .code yX2_dugCount cX2_dugCount 1 (some .int), .fieldLink RX2 52 "OrphanWave$Findings" "dugMarshes" "I", .methodLink RX2 56 yJ6_bitCount_0f7a4, .static yJ6_bitCount_0f7a4, .initialized RJ6, .code yJ6_bitCount_0f7a4 cJ6_bitCount_0f7a4 1 (some .int), .constant RJ6 265 (1431655765), .constant RJ6 266 (858993459), .constant RJ6 267 (252645135)] ++ wsX110 ++ wsX20 ++ wsX00 ++ wsX10 ++ wsX100 ++ wsX60 ++ wsX30 ++ wsX90 ++ wsX40)
def wsX11_trace : List Cond := .code yX11_trace cX11_trace 1 (some .long) :: ([.fieldLink RX11 66 "OrphanWave" "signs" "LOrphanWave$Signs;"] ++ wsX110 ++ wsX70)
def wsX12_init_r1 : List Cond := [Cond.methodLink RX12 1 objectInit, Cond.instanceMethod objectInit, Cond.code objectInit ⟨#[0xb1]⟩ 1 none, Cond.arrayClass .byte, Cond.fieldLink RX12 7 "OrphanWaveModel" "text" "[B", Cond.arrayClass .int, Cond.fieldLink RX12 13 "OrphanWaveModel" "depths" "[I", Cond.fieldLink RX12 17 "OrphanWaveModel" "tune" "[I", Cond.fieldLink RX12 20 "OrphanWaveModel" "far" "[I", Cond.fieldLink RX12 23 "OrphanWaveModel" "books" "[I", Cond.fieldLink RX12 26 "OrphanWaveModel" "told" "[I", Cond.fieldLink RX12 29 "OrphanWaveModel" "years" "[I", Cond.fieldLink RX12 32 "OrphanWaveModel" "months" "[I", Cond.fieldLink RX12 35 "OrphanWaveModel" "ring" "[I", Cond.fieldLink RX12 38 "OrphanWaveModel" "woods" "[I", Cond.fieldLink RX12 41 "OrphanWaveModel" "ends" "[I", Cond.fieldLink RX12 44 "OrphanWaveModel" "wood" "[I", Cond.fieldLink RX12 47 "OrphanWaveModel" "sheets" "[I", Cond.fieldLink RX12 50 "OrphanWaveModel" "marsh" "[I", Cond.fieldLink RX12 53 "OrphanWaveModel" "oldest" "[I", Cond.fieldLink RX12 56 "OrphanWaveModel" "youngest" "[I", Cond.fieldLink RX12 59 "OrphanWaveModel" "knowns" "[I", Cond.fieldLink RX12 62 "OrphanWaveModel" "known" "[I", Cond.arrayClass .long]
def wsX12_init_r2 : List Cond := [Cond.fieldLink RX12 65 "OrphanWaveModel" "weight" "[J", Cond.fieldLink RX12 69 "OrphanWaveModel" "chance" "[I", Cond.fieldLink RX12 72 "OrphanWaveModel" "digs" "[I", Cond.fieldLink RX12 75 "OrphanWaveModel" "draft" "[J", Cond.arrayClass .boolean, Cond.fieldLink RX12 78 "OrphanWaveModel" "isKept" "[Z", Cond.fieldLink RX12 82 "OrphanWaveModel" "firstYear" "I"]
def wsX12_init : List Cond := .code yX12_init cX12_init 3 none :: ((wsX12_init_r1 ++ wsX12_init_r2) ++ wsX120)
def wsX12_in : List Cond := .code yX12_in cX12_in 3 (some .boolean) :: ([])
def wsX12_type : List Cond := .code yX12_type cX12_type 5 (some .int) :: ([.fieldLink RX12 90 "OrphanWaveModel" "typed" "I", .fieldLink RX12 7 "OrphanWaveModel" "text" "[B", .constantLong RX12 93 (255), .methodLink RX12 86 yX12_in, .static yX12_in, .initialized RX12, .code yX12_in cX12_in 3 (some .boolean)] ++ wsX120)
def wsX12_clear : List Cond := .code yX12_clear cX12_clear 2 (some .int) :: ([.fieldLink RX12 90 "OrphanWaveModel" "typed" "I"] ++ wsX120)
def wsX12_sea : List Cond := .code yX12_sea cX12_sea 3 (some .int) :: ([.fieldLink RX12 13 "OrphanWaveModel" "depths" "[I"] ++ wsX120)
def wsX12_ocean : List Cond := .code yX12_ocean cX12_ocean 7 (some .int) :: ([.fieldLink RX12 90 "OrphanWaveModel" "typed" "I", .fieldLink RX12 7 "OrphanWaveModel" "text" "[B", .fieldLink RX12 13 "OrphanWaveModel" "depths" "[I", .methodLink RX12 86 yX12_in, .static yX12_in, .initialized RX12, .code yX12_in cX12_in 3 (some .boolean), .methodLink RX12 95 yX12_sea, .instanceMethod yX12_sea, .selects RX12 yX12_sea yX12_sea, .code yX12_sea cX12_sea 3 (some .int)] ++ wsX120)
def wsX12_isCell : List Cond := .code yX12_isCell cX12_isCell 1 (some .boolean) :: ([.methodLink RX12 86 yX12_in, .static yX12_in, .initialized RX12, .code yX12_in cX12_in 3 (some .boolean)])
def wsX12_isSea : List Cond := .code yX12_isSea cX12_isSea 2 (some .boolean) :: ([.fieldLink RX12 13 "OrphanWaveModel" "depths" "[I", .methodLink RX12 99 yX12_isCell, .static yX12_isCell, .initialized RX12, .code yX12_isCell cX12_isCell 1 (some .boolean), .methodLink RX12 86 yX12_in, .static yX12_in, .code yX12_in cX12_in 3 (some .boolean)] ++ wsX120)
def wsX12_depth : List Cond := .code yX12_depth cX12_depth 2 (some .int) :: ([.fieldLink RX12 13 "OrphanWaveModel" "depths" "[I", .methodLink RX12 99 yX12_isCell, .static yX12_isCell, .initialized RX12, .code yX12_isCell cX12_isCell 1 (some .boolean), .methodLink RX12 86 yX12_in, .static yX12_in, .code yX12_in cX12_in 3 (some .boolean)] ++ wsX120)
def wsX12_tune : List Cond := .code yX12_tune cX12_tune 4 (some .int) :: ([.fieldLink RX12 17 "OrphanWaveModel" "tune" "[I", .methodLink RX12 86 yX12_in, .static yX12_in, .initialized RX12, .code yX12_in cX12_in 3 (some .boolean)] ++ wsX120)
def wsX12_into : List Cond := .code yX12_into cX12_into 4 (some .int) :: ([.fieldLink RX12 20 "OrphanWaveModel" "far" "[I", .fieldLink RX12 17 "OrphanWaveModel" "tune" "[I", .fieldLink RX12 13 "OrphanWaveModel" "depths" "[I"] ++ wsX120)
def wsX12_spread : List Cond := .code yX12_spread cX12_spread 4 none :: ([.fieldLink RX12 13 "OrphanWaveModel" "depths" "[I", .constant RX12 107 (1000000), .fieldLink RX12 20 "OrphanWaveModel" "far" "[I", .methodLink RX12 103 yX12_into, .instanceMethod yX12_into, .selects RX12 yX12_into yX12_into, .initialized RX12, .code yX12_into cX12_into 4 (some .int), .fieldLink RX12 17 "OrphanWaveModel" "tune" "[I"] ++ wsX120)
def wsX12_begin : List Cond := .code yX12_begin cX12_begin 3 none :: ([.fieldLink RX12 20 "OrphanWaveModel" "far" "[I", .fieldLink RX12 13 "OrphanWaveModel" "depths" "[I", .constant RX12 107 (1000000), .methodLink RX12 108 yX12_spread, .instanceMethod yX12_spread, .selects RX12 yX12_spread yX12_spread, .initialized RX12, .code yX12_spread cX12_spread 4 none, .methodLink RX12 103 yX12_into, .instanceMethod yX12_into, .selects RX12 yX12_into yX12_into, .code yX12_into cX12_into 4 (some .int), .fieldLink RX12 17 "OrphanWaveModel" "tune" "[I"] ++ wsX120)
def wsX12_time : List Cond := .code yX12_time cX12_time 3 (some .int) :: ([.fieldLink RX12 20 "OrphanWaveModel" "far" "[I", .constant RX12 107 (1000000), .methodLink RX12 99 yX12_isCell, .static yX12_isCell, .initialized RX12, .code yX12_isCell cX12_isCell 1 (some .boolean), .methodLink RX12 86 yX12_in, .static yX12_in, .code yX12_in cX12_in 3 (some .boolean), .methodLink RX12 111 yX12_begin, .instanceMethod yX12_begin, .selects RX12 yX12_begin yX12_begin, .code yX12_begin cX12_begin 3 none, .fieldLink RX12 13 "OrphanWaveModel" "depths" "[I", .methodLink RX12 108 yX12_spread, .instanceMethod yX12_spread, .selects RX12 yX12_spread yX12_spread, .code yX12_spread cX12_spread 4 none, .methodLink RX12 103 yX12_into, .instanceMethod yX12_into, .selects RX12 yX12_into yX12_into, .code yX12_into cX12_into 4 (some .int), .fieldLink RX12 17 "OrphanWaveModel" "tune" "[I"] ++ wsX120)
def wsX12_heightAt : List Cond := .code yX12_heightAt cX12_heightAt 4 (some .int) :: ([.fieldLink RX12 17 "OrphanWaveModel" "tune" "[I", .fieldLink RX12 20 "OrphanWaveModel" "far" "[I", .fieldLink RX12 13 "OrphanWaveModel" "depths" "[I", .methodLink RX12 86 yX12_in, .static yX12_in, .initialized RX12, .code yX12_in cX12_in 3 (some .boolean)] ++ wsX120)
def wsX12_height_r1 : List Cond := [Cond.fieldLink RX12 20 "OrphanWaveModel" "far" "[I", Cond.constant RX12 107 (1000000), Cond.methodLink RX12 99 yX12_isCell, Cond.static yX12_isCell, Cond.initialized RX12, Cond.code yX12_isCell cX12_isCell 1 (some .boolean), Cond.methodLink RX12 86 yX12_in, Cond.static yX12_in, Cond.code yX12_in cX12_in 3 (some .boolean), Cond.methodLink RX12 111 yX12_begin, Cond.instanceMethod yX12_begin, Cond.selects RX12 yX12_begin yX12_begin, Cond.code yX12_begin cX12_begin 3 none, Cond.fieldLink RX12 13 "OrphanWaveModel" "depths" "[I", Cond.methodLink RX12 108 yX12_spread, Cond.instanceMethod yX12_spread, Cond.selects RX12 yX12_spread yX12_spread, Cond.code yX12_spread cX12_spread 4 none, Cond.methodLink RX12 103 yX12_into, Cond.instanceMethod yX12_into, Cond.selects RX12 yX12_into yX12_into, Cond.code yX12_into cX12_into 4 (some .int), Cond.fieldLink RX12 17 "OrphanWaveModel" "tune" "[I", Cond.methodLink RX12 115 yX12_heightAt]
def wsX12_height_r2 : List Cond := [Cond.instanceMethod yX12_heightAt, Cond.selects RX12 yX12_heightAt yX12_heightAt, Cond.code yX12_heightAt cX12_heightAt 4 (some .int)]
def wsX12_height : List Cond := .code yX12_height cX12_height 4 (some .int) :: ((wsX12_height_r1 ++ wsX12_height_r2) ++ wsX120)
def wsX12_book : List Cond := .code yX12_book cX12_book 7 (some .int) :: ([.fieldLink RX12 23 "OrphanWaveModel" "books" "[I", .fieldLink RX12 26 "OrphanWaveModel" "told" "[I", .methodLink RX12 119 yX12_isSea, .instanceMethod yX12_isSea, .selects RX12 yX12_isSea yX12_isSea, .initialized RX12, .code yX12_isSea cX12_isSea 2 (some .boolean), .fieldLink RX12 13 "OrphanWaveModel" "depths" "[I", .methodLink RX12 99 yX12_isCell, .static yX12_isCell, .code yX12_isCell cX12_isCell 1 (some .boolean), .methodLink RX12 86 yX12_in, .static yX12_in, .code yX12_in cX12_in 3 (some .boolean)] ++ wsX120)
def wsX12_findBegins : List Cond := .code yX12_findBegins cX12_findBegins 7 none :: ([.constant RX12 122 (-1000000), .fieldLink RX12 123 "OrphanWaveModel" "earliest" "I", .constant RX12 107 (1000000), .fieldLink RX12 126 "OrphanWaveModel" "latest" "I", .fieldLink RX12 23 "OrphanWaveModel" "books" "[I", .fieldLink RX12 26 "OrphanWaveModel" "told" "[I", .fieldLink RX12 20 "OrphanWaveModel" "far" "[I", .methodLink RX12 115 yX12_heightAt, .instanceMethod yX12_heightAt, .selects RX12 yX12_heightAt yX12_heightAt, .initialized RX12, .code yX12_heightAt cX12_heightAt 4 (some .int), .fieldLink RX12 17 "OrphanWaveModel" "tune" "[I", .fieldLink RX12 13 "OrphanWaveModel" "depths" "[I", .methodLink RX12 86 yX12_in, .static yX12_in, .code yX12_in cX12_in 3 (some .boolean)] ++ wsX120)
def wsX12_beginsOf : List Cond := .code yX12_beginsOf cX12_beginsOf 2 (some .int) :: ([.fieldLink RX12 126 "OrphanWaveModel" "latest" "I", .fieldLink RX12 123 "OrphanWaveModel" "earliest" "I", .methodLink RX12 129 yX12_findBegins, .instanceMethod yX12_findBegins, .selects RX12 yX12_findBegins yX12_findBegins, .initialized RX12, .code yX12_findBegins cX12_findBegins 7 none, .constant RX12 122 (-1000000), .constant RX12 107 (1000000), .fieldLink RX12 23 "OrphanWaveModel" "books" "[I", .fieldLink RX12 26 "OrphanWaveModel" "told" "[I", .fieldLink RX12 20 "OrphanWaveModel" "far" "[I", .methodLink RX12 115 yX12_heightAt, .instanceMethod yX12_heightAt, .selects RX12 yX12_heightAt yX12_heightAt, .code yX12_heightAt cX12_heightAt 4 (some .int), .fieldLink RX12 17 "OrphanWaveModel" "tune" "[I", .fieldLink RX12 13 "OrphanWaveModel" "depths" "[I", .methodLink RX12 86 yX12_in, .static yX12_in, .code yX12_in cX12_in 3 (some .boolean)] ++ wsX120)
def wsX12_waysOf_r1 : List Cond := [Cond.methodLink RX12 111 yX12_begin, Cond.instanceMethod yX12_begin, Cond.selects RX12 yX12_begin yX12_begin, Cond.initialized RX12, Cond.code yX12_begin cX12_begin 3 none, Cond.fieldLink RX12 20 "OrphanWaveModel" "far" "[I", Cond.fieldLink RX12 13 "OrphanWaveModel" "depths" "[I", Cond.constant RX12 107 (1000000), Cond.methodLink RX12 108 yX12_spread, Cond.instanceMethod yX12_spread, Cond.selects RX12 yX12_spread yX12_spread, Cond.code yX12_spread cX12_spread 4 none, Cond.methodLink RX12 103 yX12_into, Cond.instanceMethod yX12_into, Cond.selects RX12 yX12_into yX12_into, Cond.code yX12_into cX12_into 4 (some .int), Cond.fieldLink RX12 17 "OrphanWaveModel" "tune" "[I", Cond.methodLink RX12 132 yX12_beginsOf, Cond.instanceMethod yX12_beginsOf, Cond.selects RX12 yX12_beginsOf yX12_beginsOf, Cond.code yX12_beginsOf cX12_beginsOf 2 (some .int), Cond.fieldLink RX12 126 "OrphanWaveModel" "latest" "I", Cond.fieldLink RX12 123 "OrphanWaveModel" "earliest" "I", Cond.methodLink RX12 129 yX12_findBegins]
def wsX12_waysOf_r2 : List Cond := [Cond.instanceMethod yX12_findBegins, Cond.selects RX12 yX12_findBegins yX12_findBegins, Cond.code yX12_findBegins cX12_findBegins 7 none, Cond.constant RX12 122 (-1000000), Cond.fieldLink RX12 23 "OrphanWaveModel" "books" "[I", Cond.fieldLink RX12 26 "OrphanWaveModel" "told" "[I", Cond.methodLink RX12 115 yX12_heightAt, Cond.instanceMethod yX12_heightAt, Cond.selects RX12 yX12_heightAt yX12_heightAt, Cond.code yX12_heightAt cX12_heightAt 4 (some .int), Cond.methodLink RX12 86 yX12_in, Cond.static yX12_in, Cond.code yX12_in cX12_in 3 (some .boolean)]
def wsX12_waysOf : List Cond := .code yX12_waysOf cX12_waysOf 4 (some .int) :: ((wsX12_waysOf_r1 ++ wsX12_waysOf_r2) ++ wsX120)
def wsX12_begins_r1 : List Cond := [Cond.fieldLink RX12 23 "OrphanWaveModel" "books" "[I", Cond.methodLink RX12 119 yX12_isSea, Cond.instanceMethod yX12_isSea, Cond.selects RX12 yX12_isSea yX12_isSea, Cond.initialized RX12, Cond.code yX12_isSea cX12_isSea 2 (some .boolean), Cond.fieldLink RX12 13 "OrphanWaveModel" "depths" "[I", Cond.methodLink RX12 99 yX12_isCell, Cond.static yX12_isCell, Cond.code yX12_isCell cX12_isCell 1 (some .boolean), Cond.methodLink RX12 86 yX12_in, Cond.static yX12_in, Cond.code yX12_in cX12_in 3 (some .boolean), Cond.methodLink RX12 111 yX12_begin, Cond.instanceMethod yX12_begin, Cond.selects RX12 yX12_begin yX12_begin, Cond.code yX12_begin cX12_begin 3 none, Cond.fieldLink RX12 20 "OrphanWaveModel" "far" "[I", Cond.constant RX12 107 (1000000), Cond.methodLink RX12 108 yX12_spread, Cond.instanceMethod yX12_spread, Cond.selects RX12 yX12_spread yX12_spread, Cond.code yX12_spread cX12_spread 4 none, Cond.methodLink RX12 103 yX12_into]
def wsX12_begins_r2 : List Cond := [Cond.instanceMethod yX12_into, Cond.selects RX12 yX12_into yX12_into, Cond.code yX12_into cX12_into 4 (some .int), Cond.fieldLink RX12 17 "OrphanWaveModel" "tune" "[I", Cond.methodLink RX12 132 yX12_beginsOf, Cond.instanceMethod yX12_beginsOf, Cond.selects RX12 yX12_beginsOf yX12_beginsOf, Cond.code yX12_beginsOf cX12_beginsOf 2 (some .int), Cond.fieldLink RX12 126 "OrphanWaveModel" "latest" "I", Cond.fieldLink RX12 123 "OrphanWaveModel" "earliest" "I", Cond.methodLink RX12 129 yX12_findBegins, Cond.instanceMethod yX12_findBegins, Cond.selects RX12 yX12_findBegins yX12_findBegins, Cond.code yX12_findBegins cX12_findBegins 7 none, Cond.constant RX12 122 (-1000000), Cond.fieldLink RX12 26 "OrphanWaveModel" "told" "[I", Cond.methodLink RX12 115 yX12_heightAt, Cond.instanceMethod yX12_heightAt, Cond.selects RX12 yX12_heightAt yX12_heightAt, Cond.code yX12_heightAt cX12_heightAt 4 (some .int)]
def wsX12_begins : List Cond := .code yX12_begins cX12_begins 3 (some .int) :: ((wsX12_begins_r1 ++ wsX12_begins_r2) ++ wsX120)
def wsX12_ways_r1 : List Cond := [Cond.fieldLink RX12 23 "OrphanWaveModel" "books" "[I", Cond.methodLink RX12 119 yX12_isSea, Cond.instanceMethod yX12_isSea, Cond.selects RX12 yX12_isSea yX12_isSea, Cond.initialized RX12, Cond.code yX12_isSea cX12_isSea 2 (some .boolean), Cond.fieldLink RX12 13 "OrphanWaveModel" "depths" "[I", Cond.methodLink RX12 99 yX12_isCell, Cond.static yX12_isCell, Cond.code yX12_isCell cX12_isCell 1 (some .boolean), Cond.methodLink RX12 86 yX12_in, Cond.static yX12_in, Cond.code yX12_in cX12_in 3 (some .boolean), Cond.methodLink RX12 135 yX12_waysOf, Cond.instanceMethod yX12_waysOf, Cond.selects RX12 yX12_waysOf yX12_waysOf, Cond.code yX12_waysOf cX12_waysOf 4 (some .int), Cond.methodLink RX12 111 yX12_begin, Cond.instanceMethod yX12_begin, Cond.selects RX12 yX12_begin yX12_begin, Cond.code yX12_begin cX12_begin 3 none, Cond.fieldLink RX12 20 "OrphanWaveModel" "far" "[I", Cond.constant RX12 107 (1000000), Cond.methodLink RX12 108 yX12_spread]
def wsX12_ways_r2 : List Cond := [Cond.instanceMethod yX12_spread, Cond.selects RX12 yX12_spread yX12_spread, Cond.code yX12_spread cX12_spread 4 none, Cond.methodLink RX12 103 yX12_into, Cond.instanceMethod yX12_into, Cond.selects RX12 yX12_into yX12_into, Cond.code yX12_into cX12_into 4 (some .int), Cond.fieldLink RX12 17 "OrphanWaveModel" "tune" "[I", Cond.methodLink RX12 132 yX12_beginsOf, Cond.instanceMethod yX12_beginsOf, Cond.selects RX12 yX12_beginsOf yX12_beginsOf, Cond.code yX12_beginsOf cX12_beginsOf 2 (some .int), Cond.fieldLink RX12 126 "OrphanWaveModel" "latest" "I", Cond.fieldLink RX12 123 "OrphanWaveModel" "earliest" "I", Cond.methodLink RX12 129 yX12_findBegins, Cond.instanceMethod yX12_findBegins, Cond.selects RX12 yX12_findBegins yX12_findBegins, Cond.code yX12_findBegins cX12_findBegins 7 none, Cond.constant RX12 122 (-1000000), Cond.fieldLink RX12 26 "OrphanWaveModel" "told" "[I", Cond.methodLink RX12 115 yX12_heightAt, Cond.instanceMethod yX12_heightAt, Cond.selects RX12 yX12_heightAt yX12_heightAt, Cond.code yX12_heightAt cX12_heightAt 4 (some .int)]
def wsX12_ways : List Cond := .code yX12_ways cX12_ways 4 (some .int) :: ((wsX12_ways_r1 ++ wsX12_ways_r2) ++ wsX120)
def wsX12_whence_r1 : List Cond := [Cond.fieldLink RX12 23 "OrphanWaveModel" "books" "[I", Cond.constant RX12 122 (-1000000), Cond.fieldLink RX12 123 "OrphanWaveModel" "earliest" "I", Cond.fieldLink RX12 126 "OrphanWaveModel" "latest" "I", Cond.methodLink RX12 86 yX12_in, Cond.static yX12_in, Cond.initialized RX12, Cond.code yX12_in cX12_in 3 (some .boolean), Cond.methodLink RX12 119 yX12_isSea, Cond.instanceMethod yX12_isSea, Cond.selects RX12 yX12_isSea yX12_isSea, Cond.code yX12_isSea cX12_isSea 2 (some .boolean), Cond.fieldLink RX12 13 "OrphanWaveModel" "depths" "[I", Cond.methodLink RX12 99 yX12_isCell, Cond.static yX12_isCell, Cond.code yX12_isCell cX12_isCell 1 (some .boolean), Cond.methodLink RX12 135 yX12_waysOf, Cond.instanceMethod yX12_waysOf, Cond.selects RX12 yX12_waysOf yX12_waysOf, Cond.code yX12_waysOf cX12_waysOf 4 (some .int), Cond.methodLink RX12 111 yX12_begin, Cond.instanceMethod yX12_begin, Cond.selects RX12 yX12_begin yX12_begin, Cond.code yX12_begin cX12_begin 3 none]
def wsX12_whence_r2 : List Cond := [Cond.fieldLink RX12 20 "OrphanWaveModel" "far" "[I", Cond.constant RX12 107 (1000000), Cond.methodLink RX12 108 yX12_spread, Cond.instanceMethod yX12_spread, Cond.selects RX12 yX12_spread yX12_spread, Cond.code yX12_spread cX12_spread 4 none, Cond.methodLink RX12 103 yX12_into, Cond.instanceMethod yX12_into, Cond.selects RX12 yX12_into yX12_into, Cond.code yX12_into cX12_into 4 (some .int), Cond.fieldLink RX12 17 "OrphanWaveModel" "tune" "[I", Cond.methodLink RX12 132 yX12_beginsOf, Cond.instanceMethod yX12_beginsOf, Cond.selects RX12 yX12_beginsOf yX12_beginsOf, Cond.code yX12_beginsOf cX12_beginsOf 2 (some .int), Cond.methodLink RX12 129 yX12_findBegins, Cond.instanceMethod yX12_findBegins, Cond.selects RX12 yX12_findBegins yX12_findBegins, Cond.code yX12_findBegins cX12_findBegins 7 none, Cond.fieldLink RX12 26 "OrphanWaveModel" "told" "[I", Cond.methodLink RX12 115 yX12_heightAt, Cond.instanceMethod yX12_heightAt, Cond.selects RX12 yX12_heightAt yX12_heightAt, Cond.code yX12_heightAt cX12_heightAt 4 (some .int)]
def wsX12_whence : List Cond := .code yX12_whence cX12_whence 9 (some .int) :: ((wsX12_whence_r1 ++ wsX12_whence_r2) ++ wsX120)
def wsX12_isDigit : List Cond := .code yX12_isDigit cX12_isDigit 1 (some .boolean) :: ([.methodLink RX12 86 yX12_in, .static yX12_in, .initialized RX12, .code yX12_in cX12_in 3 (some .boolean)])
def wsX12_calendar : List Cond := .code yX12_calendar cX12_calendar 10 (some .int) :: ([.fieldLink RX12 90 "OrphanWaveModel" "typed" "I", .fieldLink RX12 7 "OrphanWaveModel" "text" "[B", .fieldLink RX12 32 "OrphanWaveModel" "months" "[I", .fieldLink RX12 29 "OrphanWaveModel" "years" "[I", .methodLink RX12 138 yX12_isDigit, .static yX12_isDigit, .initialized RX12, .code yX12_isDigit cX12_isDigit 1 (some .boolean), .methodLink RX12 86 yX12_in, .static yX12_in, .code yX12_in cX12_in 3 (some .boolean)] ++ wsX120)
def wsX12_clock : List Cond := .code yX12_clock cX12_clock 9 (some .int) :: ([.fieldLink RX12 29 "OrphanWaveModel" "years" "[I", .fieldLink RX12 32 "OrphanWaveModel" "months" "[I", .constant RX12 122 (-1000000), .methodLink RX12 86 yX12_in, .static yX12_in, .initialized RX12, .code yX12_in cX12_in 3 (some .boolean)] ++ wsX120)
def wsX12_told : List Cond := .code yX12_told cX12_told 8 (some .int) :: ([.constant RX12 122 (-1000000), .fieldLink RX12 29 "OrphanWaveModel" "years" "[I", .fieldLink RX12 32 "OrphanWaveModel" "months" "[I", .methodLink RX12 86 yX12_in, .static yX12_in, .initialized RX12, .code yX12_in cX12_in 3 (some .boolean)] ++ wsX120)
def wsX12_ring : List Cond := .code yX12_ring cX12_ring 2 (some .int) :: ([.fieldLink RX12 141 "OrphanWaveModel" "rings" "I", .fieldLink RX12 35 "OrphanWaveModel" "ring" "[I", .methodLink RX12 86 yX12_in, .static yX12_in, .initialized RX12, .code yX12_in cX12_in 3 (some .boolean)] ++ wsX120)
def wsX12_living : List Cond := .code yX12_living cX12_living 3 (some .int) :: ([.fieldLink RX12 141 "OrphanWaveModel" "rings" "I", .fieldLink RX12 82 "OrphanWaveModel" "firstYear" "I", .methodLink RX12 86 yX12_in, .static yX12_in, .initialized RX12, .code yX12_in cX12_in 3 (some .boolean)] ++ wsX120)
def wsX12_isWood : List Cond := .code yX12_isWood cX12_isWood 1 (some .boolean) :: ([.methodLink RX12 86 yX12_in, .static yX12_in, .initialized RX12, .code yX12_in cX12_in 3 (some .boolean)])
def wsX12_wood : List Cond := .code yX12_wood cX12_wood 3 (some .int) :: ([.fieldLink RX12 38 "OrphanWaveModel" "woods" "[I", .fieldLink RX12 44 "OrphanWaveModel" "wood" "[I", .methodLink RX12 144 yX12_isWood, .static yX12_isWood, .initialized RX12, .code yX12_isWood cX12_isWood 1 (some .boolean), .methodLink RX12 86 yX12_in, .static yX12_in, .code yX12_in cX12_in 3 (some .boolean)] ++ wsX120)
def wsX12_felled : List Cond := .code yX12_felled cX12_felled 4 (some .int) :: ([.fieldLink RX12 38 "OrphanWaveModel" "woods" "[I", .fieldLink RX12 41 "OrphanWaveModel" "ends" "[I", .methodLink RX12 144 yX12_isWood, .static yX12_isWood, .initialized RX12, .code yX12_isWood cX12_isWood 1 (some .boolean), .methodLink RX12 86 yX12_in, .static yX12_in, .code yX12_in cX12_in 3 (some .boolean)] ++ wsX120)
def wsX12_likeOf : List Cond := .code yX12_likeOf cX12_likeOf 7 (some .int) :: ([.fieldLink RX12 38 "OrphanWaveModel" "woods" "[I", .fieldLink RX12 44 "OrphanWaveModel" "wood" "[I", .fieldLink RX12 35 "OrphanWaveModel" "ring" "[I"] ++ wsX120)
def wsX12_like : List Cond := .code yX12_like cX12_like 3 (some .int) :: ([.fieldLink RX12 38 "OrphanWaveModel" "woods" "[I", .fieldLink RX12 141 "OrphanWaveModel" "rings" "I", .methodLink RX12 144 yX12_isWood, .static yX12_isWood, .initialized RX12, .code yX12_isWood cX12_isWood 1 (some .boolean), .methodLink RX12 86 yX12_in, .static yX12_in, .code yX12_in cX12_in 3 (some .boolean), .methodLink RX12 147 yX12_likeOf, .instanceMethod yX12_likeOf, .selects RX12 yX12_likeOf yX12_likeOf, .code yX12_likeOf cX12_likeOf 7 (some .int), .fieldLink RX12 44 "OrphanWaveModel" "wood" "[I", .fieldLink RX12 35 "OrphanWaveModel" "ring" "[I"] ++ wsX120)
def wsX12_laidOf : List Cond := .code yX12_laidOf cX12_laidOf 6 (some .int) :: ([.fieldLink RX12 38 "OrphanWaveModel" "woods" "[I", .fieldLink RX12 141 "OrphanWaveModel" "rings" "I", .methodLink RX12 147 yX12_likeOf, .instanceMethod yX12_likeOf, .selects RX12 yX12_likeOf yX12_likeOf, .initialized RX12, .code yX12_likeOf cX12_likeOf 7 (some .int), .fieldLink RX12 44 "OrphanWaveModel" "wood" "[I", .fieldLink RX12 35 "OrphanWaveModel" "ring" "[I"] ++ wsX120)
def wsX12_died : List Cond := .code yX12_died cX12_died 4 (some .int) :: ([.fieldLink RX12 82 "OrphanWaveModel" "firstYear" "I", .fieldLink RX12 38 "OrphanWaveModel" "woods" "[I", .fieldLink RX12 41 "OrphanWaveModel" "ends" "[I", .methodLink RX12 144 yX12_isWood, .static yX12_isWood, .initialized RX12, .code yX12_isWood cX12_isWood 1 (some .boolean), .methodLink RX12 86 yX12_in, .static yX12_in, .code yX12_in cX12_in 3 (some .boolean), .methodLink RX12 150 yX12_laidOf, .instanceMethod yX12_laidOf, .selects RX12 yX12_laidOf yX12_laidOf, .code yX12_laidOf cX12_laidOf 6 (some .int), .fieldLink RX12 141 "OrphanWaveModel" "rings" "I", .methodLink RX12 147 yX12_likeOf, .instanceMethod yX12_likeOf, .selects RX12 yX12_likeOf yX12_likeOf, .code yX12_likeOf cX12_likeOf 7 (some .int), .fieldLink RX12 44 "OrphanWaveModel" "wood" "[I", .fieldLink RX12 35 "OrphanWaveModel" "ring" "[I"] ++ wsX120)
def wsX12_alike : List Cond := .code yX12_alike cX12_alike 7 (some .int) :: ([.fieldLink RX12 82 "OrphanWaveModel" "firstYear" "I", .fieldLink RX12 38 "OrphanWaveModel" "woods" "[I", .fieldLink RX12 41 "OrphanWaveModel" "ends" "[I", .methodLink RX12 150 yX12_laidOf, .instanceMethod yX12_laidOf, .selects RX12 yX12_laidOf yX12_laidOf, .initialized RX12, .code yX12_laidOf cX12_laidOf 6 (some .int), .fieldLink RX12 141 "OrphanWaveModel" "rings" "I", .methodLink RX12 147 yX12_likeOf, .instanceMethod yX12_likeOf, .selects RX12 yX12_likeOf yX12_likeOf, .code yX12_likeOf cX12_likeOf 7 (some .int), .fieldLink RX12 44 "OrphanWaveModel" "wood" "[I", .fieldLink RX12 35 "OrphanWaveModel" "ring" "[I"] ++ wsX120)
def wsX12_sheet : List Cond := .code yX12_sheet cX12_sheet 5 (some .int) :: ([.fieldLink RX12 47 "OrphanWaveModel" "sheets" "[I", .fieldLink RX12 50 "OrphanWaveModel" "marsh" "[I", .fieldLink RX12 53 "OrphanWaveModel" "oldest" "[I", .fieldLink RX12 56 "OrphanWaveModel" "youngest" "[I", .methodLink RX12 86 yX12_in, .static yX12_in, .initialized RX12, .code yX12_in cX12_in 3 (some .boolean)] ++ wsX120)
def wsX12_together : List Cond := .code yX12_together cX12_together 7 (some .int) :: ([.fieldLink RX12 47 "OrphanWaveModel" "sheets" "[I", .fieldLink RX12 53 "OrphanWaveModel" "oldest" "[I", .fieldLink RX12 56 "OrphanWaveModel" "youngest" "[I", .methodLink RX12 86 yX12_in, .static yX12_in, .initialized RX12, .code yX12_in cX12_in 3 (some .boolean)] ++ wsX120)
def wsX12_slips : List Cond := .code yX12_slips cX12_slips 7 (some .int) :: ([.constant RX12 107 (1000000), .fieldLink RX12 47 "OrphanWaveModel" "sheets" "[I", .fieldLink RX12 53 "OrphanWaveModel" "oldest" "[I", .fieldLink RX12 56 "OrphanWaveModel" "youngest" "[I", .fieldLink RX12 50 "OrphanWaveModel" "marsh" "[I"] ++ wsX120)
def wsX12_joinedBy : List Cond := .code yX12_joinedBy cX12_joinedBy 4 (some .int) :: ([.fieldLink RX12 47 "OrphanWaveModel" "sheets" "[I", .fieldLink RX12 53 "OrphanWaveModel" "oldest" "[I", .fieldLink RX12 56 "OrphanWaveModel" "youngest" "[I", .fieldLink RX12 50 "OrphanWaveModel" "marsh" "[I", .methodLink RX12 86 yX12_in, .static yX12_in, .initialized RX12, .code yX12_in cX12_in 3 (some .boolean)] ++ wsX120)
def wsX12_bitsIn : List Cond := .code yX12_bitsIn cX12_bitsIn 3 (some .int) :: ([])
def wsX12_joined : List Cond := .code yX12_joined cX12_joined 2 (some .int) :: ([.methodLink RX12 86 yX12_in, .static yX12_in, .initialized RX12, .code yX12_in cX12_in 3 (some .boolean), .methodLink RX12 153 yX12_joinedBy, .instanceMethod yX12_joinedBy, .selects RX12 yX12_joinedBy yX12_joinedBy, .code yX12_joinedBy cX12_joinedBy 4 (some .int), .fieldLink RX12 47 "OrphanWaveModel" "sheets" "[I", .fieldLink RX12 53 "OrphanWaveModel" "oldest" "[I", .fieldLink RX12 56 "OrphanWaveModel" "youngest" "[I", .fieldLink RX12 50 "OrphanWaveModel" "marsh" "[I"] ++ wsX120)
def wsX12_whole : List Cond := .code yX12_whole cX12_whole 7 (some .int) :: ([.fieldLink RX12 47 "OrphanWaveModel" "sheets" "[I", .fieldLink RX12 53 "OrphanWaveModel" "oldest" "[I", .methodLink RX12 86 yX12_in, .static yX12_in, .initialized RX12, .code yX12_in cX12_in 3 (some .boolean), .methodLink RX12 153 yX12_joinedBy, .instanceMethod yX12_joinedBy, .selects RX12 yX12_joinedBy yX12_joinedBy, .code yX12_joinedBy cX12_joinedBy 4 (some .int), .fieldLink RX12 56 "OrphanWaveModel" "youngest" "[I", .fieldLink RX12 50 "OrphanWaveModel" "marsh" "[I", .methodLink RX12 156 yX12_bitsIn, .static yX12_bitsIn, .code yX12_bitsIn cX12_bitsIn 3 (some .int)] ++ wsX120)
def wsX12_tale : List Cond := .code yX12_tale cX12_tale 6 (some .int) :: ([.constant RX12 122 (-1000000), .methodLink RX12 86 yX12_in, .static yX12_in, .initialized RX12, .code yX12_in cX12_in 3 (some .boolean)])
def wsX12_known : List Cond := .code yX12_known cX12_known 2 (some .int) :: ([.fieldLink RX12 59 "OrphanWaveModel" "knowns" "[I", .fieldLink RX12 62 "OrphanWaveModel" "known" "[I", .methodLink RX12 86 yX12_in, .static yX12_in, .initialized RX12, .code yX12_in cX12_in 3 (some .boolean)] ++ wsX120)
def wsX12_common : List Cond := .code yX12_common cX12_common 10 (some .long) :: ([])
def wsX12_inLeast : List Cond := .code yX12_inLeast cX12_inLeast 7 (some .long) :: ([.methodLink RX12 163 yX12_common, .static yX12_common, .initialized RX12, .code yX12_common cX12_common 10 (some .long)])
def wsX12_next : List Cond := .code yX12_next cX12_next 8 (some .int) :: ([.fieldLink RX12 59 "OrphanWaveModel" "knowns" "[I", .fieldLink RX12 17 "OrphanWaveModel" "tune" "[I", .fieldLink RX12 62 "OrphanWaveModel" "known" "[I", .constant RX12 122 (-1000000), .methodLink RX12 86 yX12_in, .static yX12_in, .initialized RX12, .code yX12_in cX12_in 3 (some .boolean), .methodLink RX12 159 yX12_inLeast, .static yX12_inLeast, .code yX12_inLeast cX12_inLeast 7 (some .long), .methodLink RX12 163 yX12_common, .static yX12_common, .code yX12_common cX12_common 10 (some .long)] ++ wsX120)
def wsX12_even : List Cond := .code yX12_even cX12_even 5 (some .int) :: ([.constant RX12 107 (1000000), .fieldLink RX12 59 "OrphanWaveModel" "knowns" "[I", .fieldLink RX12 62 "OrphanWaveModel" "known" "[I"] ++ wsX120)
def wsX12_isStory : List Cond := .code yX12_isStory cX12_isStory 1 (some .boolean) :: ([.methodLink RX12 86 yX12_in, .static yX12_in, .initialized RX12, .code yX12_in cX12_in 3 (some .boolean)])
def wsX12_story : List Cond := .code yX12_story cX12_story 5 (some .long) :: ([.constantLong RX12 170 (-1), .fieldLink RX12 65 "OrphanWaveModel" "weight" "[J", .methodLink RX12 167 yX12_isStory, .static yX12_isStory, .initialized RX12, .code yX12_isStory cX12_isStory 1 (some .boolean), .methodLink RX12 86 yX12_in, .static yX12_in, .code yX12_in cX12_in 3 (some .boolean)] ++ wsX120)
def wsX12_chance : List Cond := .code yX12_chance cX12_chance 5 (some .int) :: ([.fieldLink RX12 69 "OrphanWaveModel" "chance" "[I", .methodLink RX12 167 yX12_isStory, .static yX12_isStory, .initialized RX12, .code yX12_isStory cX12_isStory 1 (some .boolean), .methodLink RX12 86 yX12_in, .static yX12_in, .code yX12_in cX12_in 3 (some .boolean)] ++ wsX120)
def wsX12_dug : List Cond := .code yX12_dug cX12_dug 7 (some .int) :: ([.fieldLink RX12 72 "OrphanWaveModel" "digs" "[I", .fieldLink RX12 69 "OrphanWaveModel" "chance" "[I", .fieldLink RX12 75 "OrphanWaveModel" "draft" "[J", .fieldLink RX12 65 "OrphanWaveModel" "weight" "[J", .constantLong RX12 172 (1000000000000), .methodLink RX12 86 yX12_in, .static yX12_in, .initialized RX12, .code yX12_in cX12_in 3 (some .boolean), .methodLink RX12 163 yX12_common, .static yX12_common, .code yX12_common cX12_common 10 (some .long), .methodLink RX12 156 yX12_bitsIn, .static yX12_bitsIn, .code yX12_bitsIn cX12_bitsIn 3 (some .int)] ++ wsX120)
def wsX12_believed : List Cond := .code yX12_believed cX12_believed 6 (some .long) :: ([.constantLong RX12 170 (-1), .fieldLink RX12 65 "OrphanWaveModel" "weight" "[J", .methodLink RX12 167 yX12_isStory, .static yX12_isStory, .initialized RX12, .code yX12_isStory cX12_isStory 1 (some .boolean), .methodLink RX12 86 yX12_in, .static yX12_in, .code yX12_in cX12_in 3 (some .boolean), .methodLink RX12 159 yX12_inLeast, .static yX12_inLeast, .code yX12_inLeast cX12_inLeast 7 (some .long), .methodLink RX12 163 yX12_common, .static yX12_common, .code yX12_common cX12_common 10 (some .long)] ++ wsX120)
def wsX12_dig : List Cond := .code yX12_dig cX12_dig 11 (some .int) :: ([.constantLong RX12 170 (-1), .fieldLink RX12 69 "OrphanWaveModel" "chance" "[I", .fieldLink RX12 65 "OrphanWaveModel" "weight" "[J", .fieldLink RX12 72 "OrphanWaveModel" "digs" "[I"] ++ wsX120)
def wsX12_minutes : List Cond := .code yX12_minutes cX12_minutes 6 (some .int) :: ([.constant RX12 174 (16777215), .fieldLink RX12 20 "OrphanWaveModel" "far" "[I", .fieldLink RX12 13 "OrphanWaveModel" "depths" "[I", .constant RX12 107 (1000000), .methodLink RX12 119 yX12_isSea, .instanceMethod yX12_isSea, .selects RX12 yX12_isSea yX12_isSea, .initialized RX12, .code yX12_isSea cX12_isSea 2 (some .boolean), .methodLink RX12 99 yX12_isCell, .static yX12_isCell, .code yX12_isCell cX12_isCell 1 (some .boolean), .methodLink RX12 86 yX12_in, .static yX12_in, .code yX12_in cX12_in 3 (some .boolean), .methodLink RX12 108 yX12_spread, .instanceMethod yX12_spread, .selects RX12 yX12_spread yX12_spread, .code yX12_spread cX12_spread 4 none, .methodLink RX12 103 yX12_into, .instanceMethod yX12_into, .selects RX12 yX12_into yX12_into, .code yX12_into cX12_into 4 (some .int), .fieldLink RX12 17 "OrphanWaveModel" "tune" "[I"] ++ wsX120)
def wsX12_trust : List Cond := .code yX12_trust cX12_trust 7 (some .int) :: ([.fieldLink RX12 47 "OrphanWaveModel" "sheets" "[I", .constant RX12 122 (-1000000), .fieldLink RX12 50 "OrphanWaveModel" "marsh" "[I", .fieldLink RX12 53 "OrphanWaveModel" "oldest" "[I", .fieldLink RX12 56 "OrphanWaveModel" "youngest" "[I", .fieldLink RX12 175 "OrphanWaveModel" "trace" "J", .constantLong RX12 179 (11), .constantLong RX12 181 (101), .fieldLink RX12 23 "OrphanWaveModel" "books" "[I", .constantLong RX12 183 (1011), .constantLong RX12 185 (10101), .constantLong RX12 187 (100001), .methodLink RX12 86 yX12_in, .static yX12_in, .initialized RX12, .code yX12_in cX12_in 3 (some .boolean), .methodLink RX12 156 yX12_bitsIn, .static yX12_bitsIn, .code yX12_bitsIn cX12_bitsIn 3 (some .int)] ++ wsX120)
def wsX12_copy : List Cond := .code yX12_copy cX12_copy 4 none :: ([.fieldLink RX12 23 "OrphanWaveModel" "books" "[I", .fieldLink RX12 47 "OrphanWaveModel" "sheets" "[I", .fieldLink RX12 59 "OrphanWaveModel" "knowns" "[I", .fieldLink RX12 72 "OrphanWaveModel" "digs" "[I", .fieldLink RX12 26 "OrphanWaveModel" "told" "[I", .fieldLink RX12 50 "OrphanWaveModel" "marsh" "[I", .fieldLink RX12 53 "OrphanWaveModel" "oldest" "[I", .fieldLink RX12 56 "OrphanWaveModel" "youngest" "[I", .fieldLink RX12 62 "OrphanWaveModel" "known" "[I", .fieldLink RX12 65 "OrphanWaveModel" "weight" "[J"] ++ wsX120)
def wsX12_keep : List Cond := .code yX12_keep cX12_keep 2 (some .int) :: ([.fieldLink RX12 78 "OrphanWaveModel" "isKept" "[Z", .fieldLink RX12 47 "OrphanWaveModel" "sheets" "[I", .methodLink RX12 86 yX12_in, .static yX12_in, .initialized RX12, .code yX12_in cX12_in 3 (some .boolean), .methodLink RX12 189 yX12_copy, .instanceMethod yX12_copy, .selects RX12 yX12_copy yX12_copy, .code yX12_copy cX12_copy 4 none, .fieldLink RX12 23 "OrphanWaveModel" "books" "[I", .fieldLink RX12 59 "OrphanWaveModel" "knowns" "[I", .fieldLink RX12 72 "OrphanWaveModel" "digs" "[I", .fieldLink RX12 26 "OrphanWaveModel" "told" "[I", .fieldLink RX12 50 "OrphanWaveModel" "marsh" "[I", .fieldLink RX12 53 "OrphanWaveModel" "oldest" "[I", .fieldLink RX12 56 "OrphanWaveModel" "youngest" "[I", .fieldLink RX12 62 "OrphanWaveModel" "known" "[I", .fieldLink RX12 65 "OrphanWaveModel" "weight" "[J"] ++ wsX120)
def wsX12_back : List Cond := .code yX12_back cX12_back 2 (some .int) :: ([.fieldLink RX12 78 "OrphanWaveModel" "isKept" "[Z", .fieldLink RX12 47 "OrphanWaveModel" "sheets" "[I", .methodLink RX12 86 yX12_in, .static yX12_in, .initialized RX12, .code yX12_in cX12_in 3 (some .boolean), .methodLink RX12 189 yX12_copy, .instanceMethod yX12_copy, .selects RX12 yX12_copy yX12_copy, .code yX12_copy cX12_copy 4 none, .fieldLink RX12 23 "OrphanWaveModel" "books" "[I", .fieldLink RX12 59 "OrphanWaveModel" "knowns" "[I", .fieldLink RX12 72 "OrphanWaveModel" "digs" "[I", .fieldLink RX12 26 "OrphanWaveModel" "told" "[I", .fieldLink RX12 50 "OrphanWaveModel" "marsh" "[I", .fieldLink RX12 53 "OrphanWaveModel" "oldest" "[I", .fieldLink RX12 56 "OrphanWaveModel" "youngest" "[I", .fieldLink RX12 62 "OrphanWaveModel" "known" "[I", .fieldLink RX12 65 "OrphanWaveModel" "weight" "[J"] ++ wsX120)
def wsX12_count : List Cond := .code yX12_count cX12_count 2 (some .int) :: ([.fieldLink RX12 23 "OrphanWaveModel" "books" "[I", .fieldLink RX12 29 "OrphanWaveModel" "years" "[I", .fieldLink RX12 141 "OrphanWaveModel" "rings" "I", .fieldLink RX12 47 "OrphanWaveModel" "sheets" "[I", .fieldLink RX12 59 "OrphanWaveModel" "knowns" "[I", .fieldLink RX12 72 "OrphanWaveModel" "digs" "[I", .fieldLink RX12 90 "OrphanWaveModel" "typed" "I", .methodLink RX12 95 yX12_sea, .instanceMethod yX12_sea, .selects RX12 yX12_sea yX12_sea, .initialized RX12, .code yX12_sea cX12_sea 3 (some .int), .fieldLink RX12 13 "OrphanWaveModel" "depths" "[I", .methodLink RX12 156 yX12_bitsIn, .static yX12_bitsIn, .code yX12_bitsIn cX12_bitsIn 3 (some .int)] ++ wsX120)
def wsX12_trace : List Cond := .code yX12_trace cX12_trace 1 (some .long) :: ([.fieldLink RX12 175 "OrphanWaveModel" "trace" "J"] ++ wsX120)
def wsJ9_max_7cf53 : List Cond := .code yJ9_max_7cf53 cJ9_max_7cf53 2 (some .int) :: ([])
def wsJ9_max_f86c9 : List Cond := .code yJ9_max_f86c9 cJ9_max_f86c9 4 (some .long) :: ([])
def wsJ9_min_7cf53 : List Cond := .code yJ9_min_7cf53 cJ9_min_7cf53 2 (some .int) :: ([])
abbrev vwCl : List vw_C := [(RX0, TX0, 6), (RX1, TX1, 3), (RX2, TX2, 6), (RX3, TX3, 2), (RX4, TX4, 5), (RX5, TX5, 3), (RX6, TX6, 4), (RX7, TX7, 2), (RX8, TX8, 3), (RX9, TX9, 2), (RX10, TX10, 6), (RX11, TX11, 11), (RX12, TX12, 29)]
