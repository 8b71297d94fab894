theorem byte_bits (v : Int64) (s : Nat) (hs : s ≤ 56) : ((v.toBitVec >>> s).setWidth 32).setWidth 8 = (((v.toBitVec.sshiftRight s) &&& 255#64).setWidth 32).setWidth 8 := by
  apply BitVec.eq_of_getLsbD_eq
  intro j hj
  have h255 : (255#64).getLsbD j = true := by
    have : ∀ j : Fin 8, (255#64).getLsbD j.val = true := by decide
    exact this ⟨j, hj⟩
  simp only [BitVec.getLsbD_setWidth, BitVec.getLsbD_ushiftRight, BitVec.getLsbD_and, BitVec.getLsbD_sshiftRight, h255]
  have e1 : s + j < 64 := by omega
  have e2 : ¬ 64 ≤ j := by omega
  simp [e1, e2]
theorem byte_same (v : Int64) (i : Nat) (hi : i < 8) : (v.toUInt64 >>> (((8 : Int32) * nI i).toInt64.toUInt64 &&& Int64.toUInt64 63)).toInt64.toInt32.toInt8 = ((v >>> (((8 : Int32) * nI i).toInt64 &&& 63)) &&& 255).toInt32.toInt8 := by
  have hu : ∀ i : Nat, i < 8 → (((8 : Int32) * nI i).toInt64.toUInt64 &&& Int64.toUInt64 63).toBitVec % 64#64 = BitVec.ofNat 64 (8 * i) := by decide
  have hsv : ∀ i : Nat, i < 8 → (((8 : Int32) * nI i).toInt64 &&& 63).toBitVec.smod 64#64 = BitVec.ofNat 64 (8 * i) := by decide
  have hn : (BitVec.ofNat 64 (8 * i)).toNat = 8 * i := by rw [BitVec.toNat_ofNat]; omega
  have e1 : (v.toUInt64 >>> (((8 : Int32) * nI i).toInt64.toUInt64 &&& Int64.toUInt64 63)).toInt64.toBitVec = v.toBitVec >>> (8 * i) := by
    show v.toBitVec >>> ((((8 : Int32) * nI i).toInt64.toUInt64 &&& Int64.toUInt64 63).toBitVec % 64#64) = _
    rw [hu i hi]
    show v.toBitVec >>> (BitVec.ofNat 64 (8 * i)).toNat = _
    rw [hn]
  have e2 : ((v >>> (((8 : Int32) * nI i).toInt64 &&& 63)) &&& 255).toBitVec = (v.toBitVec.sshiftRight (8 * i)) &&& 255#64 := by
    show (v.toBitVec.sshiftRight' ((((8 : Int32) * nI i).toInt64 &&& 63).toBitVec.smod 64#64)) &&& 255#64 = _
    rw [hsv i hi]
    show (v.toBitVec.sshiftRight (BitVec.ofNat 64 (8 * i)).toNat) &&& 255#64 = _
    rw [hn]
  apply Int8.toBitVec_inj.mp
  show (((v.toUInt64 >>> (((8 : Int32) * nI i).toInt64.toUInt64 &&& Int64.toUInt64 63)).toInt64.toBitVec.signExtend 32)).signExtend 8 = ((((v >>> (((8 : Int32) * nI i).toInt64 &&& 63)) &&& 255).toBitVec.signExtend 32)).signExtend 8
  rw [e1, e2]
  have := byte_bits v (8 * i) (by omega)
  rw [BitVec.signExtend_eq_setWidth_of_le _ (by omega), BitVec.signExtend_eq_setWidth_of_le _ (by omega), BitVec.signExtend_eq_setWidth_of_le _ (by omega), BitVec.signExtend_eq_setWidth_of_le _ (by omega)]
  exact this
theorem byte_ex (y : Int32) : ∃ b : Nat, b < 256 ∧ vp_nar .byte y = (nI b).toInt8.toInt32 := by
  refine ⟨y.toInt8.toBitVec.toNat, y.toInt8.toBitVec.isLt, ?_⟩
  rw [vp_nar_byte]
  congr 1
  apply Int8.toBitVec_inj.mp
  show _ = (BitVec.ofNat 32 y.toInt8.toBitVec.toNat).signExtend 8
  rw [BitVec.signExtend_eq_setWidth_of_le _ (by omega), BitVec.setWidth_ofNat_of_le (by omega)]
  simp
/-- the typing loops, side by side -/
theorem type_loop (v : Int64) (x : Int32) : ∀ (n k k' t : Nat) (bt tx : A32), n ≤ 8 → t + n ≤ 400 → n < k → n < k' → (∀ j, j < t → bt j = tx j ∧ ∃ b : Nat, b < 256 ∧ tx j = (nI b).toInt8.toInt32) → ∃ bt' tx', f_X11_type_35 v x k (nI n - 1) (nI t) bt = some (nI (t + n), nI (t + n), bt') ∧ f_X12_type_32 v x k' (nI n - 1) (nI t) tx = some (nI (t + n), nI (t + n), tx') ∧ ∀ j, j < t + n → bt' j = tx' j ∧ ∃ b : Nat, b < 256 ∧ tx' j = (nI b).toInt8.toInt32
  | 0, k, k', t, bt, tx, _, _, hk, hk', h => by
    obtain ⟨k, rfl⟩ : ∃ q, k = q + 1 := ⟨k - 1, by omega⟩
    obtain ⟨k', rfl⟩ : ∃ q, k' = q + 1 := ⟨k' - 1, by omega⟩
    rw [f_X11_type_35, f_X12_type_32, pbr_pos (show nI 0 - 1 < 0 by decide), pbr_pos (show nI 0 - 1 < 0 by decide)]
    exact ⟨bt, tx, rfl, rfl, h⟩
  | n + 1, k, k', t, bt, tx, hn, ht, hk, hk', h => by
    obtain ⟨k, rfl⟩ : ∃ q, k = q + 1 := ⟨k - 1, by omega⟩
    obtain ⟨k', rfl⟩ : ∃ q, k' = q + 1 := ⟨k' - 1, by omega⟩
    have e1 : nI (n + 1) - 1 = nI n := nI_pred n
    have e2 : nI n + -1 = nI n - 1 := by rw [Int32.sub_eq_add_neg]
    rw [f_X11_type_35, f_X12_type_32, e1, pbr_neg (nI_pos (by omega)), pbr_neg (nI_pos (by omega))]
    unfold f_X9_append
    simp only [plt_eq, e2]
    rw [pbr_neg (show ¬ (400 : Int32) ≤ nI t from fun q => absurd ((nI_le_iff (a := 400) (by omega) (by omega)).mp q) (by omega)), pgd_pos (pin_nI (by omega) (by omega)), pgd_pos (pin_nI (by omega) (by omega)), pcl_some, nI_cl (by omega), nI_1, byte_same v n (by omega)]
    dsimp only
    obtain ⟨bt', tx', q1, q2, q3⟩ := type_loop v x n k k' (t + 1) (upd bt t (vp_nar .byte ((v >>> (((8 : Int32) * nI n).toInt64 &&& 63)) &&& 255).toInt32.toInt8.toInt32)) (upd tx t (vp_nar .byte ((v >>> (((8 : Int32) * nI n).toInt64 &&& 63)) &&& 255).toInt32.toInt8.toInt32)) (by omega) (by omega) (by omega) (by omega) (fun j hj => by
      by_cases e : j = t
      · subst e; rw [upd_s, upd_s]; exact ⟨rfl, byte_ex _⟩
      · rw [upd_n e, upd_n e]; exact h j (by omega))
    rw [show t + (n + 1) = t + 1 + n by omega]
    exact ⟨bt', tx', q1, q2, q3⟩
theorem op_type {bt tx : A32} {ln ty : Int32} (h : RT bt ln tx ty) (v : Int64) (x : Int32) : ∃ r ln' bt' ty' tx', f_X11_type v x ln bt = some (r, ln', bt') ∧ f_X12_type v x ty tx = some (r, ty', tx') ∧ RT bt' ln' tx' ty' := by
  obtain ⟨t, t1, rfl, rfl, ht⟩ := h
  unfold f_X11_type f_X12_type
  simp only [within_eq, in_eq, pcl_some, pbr_bI, plt_eq]
  by_cases c1 : 1 ≤ x ∧ x ≤ 8
  · obtain ⟨n, n1, n2, rfl⟩ := of_span (a := 1) (b := 8) (by omega) (by omega) c1.1 c1.2
    have e1 : (400 : Int32) - nI t = nI (400 - t) := nI_sub (a := 400) t1
    rw [pbr_pos c1, pbr_pos c1, e1, nI_add]
    by_cases c2 : t + n ≤ 400
    · rw [pbr_pos ((nI_le_iff (by omega) (by omega)).mpr (by omega)), pbr_pos (show nI (t + n) ≤ 400 from (nI_le_iff (b := 400) (by omega) (by omega)).mpr c2)]
      obtain ⟨bt', tx', q1, q2, q3⟩ := type_loop v (nI n) n FU FU t bt tx n2 c2 (by have := FU_big; omega) (by have := FU_big; omega) ht
      exact ⟨_, _, _, _, _, q1, q2, t + n, c2, rfl, rfl, q3⟩
    · rw [pbr_neg (fun q => c2 (by have := (nI_le_iff (by omega) (by omega)).mp q; omega)), pbr_neg (show ¬ nI (t + n) ≤ 400 from fun q => c2 ((nI_le_iff (b := 400) (by omega) (by omega)).mp q))]
      exact ⟨_, _, _, _, _, rfl, rfl, t, t1, rfl, rfl, ht⟩
  · rw [pbr_neg c1, pbr_neg c1]
    exact ⟨_, _, _, _, _, rfl, rfl, t, t1, rfl, rfl, ht⟩
