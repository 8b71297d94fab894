/-! ===== minutes: a set of cells in two numbers ===== -/
def mb (A B i : Nat) : Bool := if i < 24 then A.testBit i else B.testBit (i - 24)
theorem sh63 : ∀ i : Nat, i < 48 → ((nI i).toInt64.toUInt64 &&& Int64.toUInt64 63).toBitVec.toNat % 64 = i := by decide +kernel
theorem bt_nI {A i : Nat} (hi : i < 32) : bt (nI A) i = A.testBit i := by
  unfold bt
  show (BitVec.ofNat 32 A).getLsbD i = _
  rw [BitVec.getLsbD_ofNat]
  simp [hi]
theorem and1L (y : Int64) : (y &&& 1 = 0) ↔ y.toBitVec.getLsbD 0 = false := by
  rw [← Int64.toBitVec_inj, Int64.toBitVec_and, show (1 : Int64).toBitVec = 1#64 from rfl, BitVec.and_one_eq_setWidth_ofBool_getLsbD]
  cases y.toBitVec.getLsbD 0
  · exact ⟨fun _ => rfl, fun _ => by decide⟩
  · exact ⟨fun h => absurd h (by decide), fun h => absurd h (by decide)⟩
theorem set_bv {A B : Nat} (hA : A < 16777216) (hB : B < 16777216) {i : Nat} (hi : i < 48) : (((nI B).toInt64 <<< ((24 : Int32).toInt64 &&& 63)) ||| (nI A).toInt64).toBitVec.getLsbD i = mb A B i := by
  rw [nI_l (by omega), nI_l (by omega), Int64.toBitVec_or, BitVec.getLsbD_or, Int64.toBitVec_shiftLeft]
  show (((BitVec.ofNat 64 B) <<< (((24 : Int32).toInt64 &&& 63).toBitVec.smod 64)).getLsbD i || (BitVec.ofNat 64 A).getLsbD i) = _
  rw [show ((24 : Int32).toInt64 &&& 63).toBitVec.smod 64 = 24#64 by decide, BitVec.shiftLeft_eq', BitVec.getLsbD_shiftLeft, BitVec.getLsbD_ofNat, BitVec.getLsbD_ofNat]
  unfold mb
  by_cases g : i < 24
  · rw [if_pos g]
    simp [g, show i < 64 by omega]
  · rw [if_neg g]
    have e : A.testBit i = false := Nat.testBit_lt_two_pow (Nat.lt_of_lt_of_le hA (Nat.pow_le_pow_right (n := 2) (by omega) (show 24 ≤ i by omega)))
    simp [g, e, show i < 64 by omega, show i - 24 < 64 by omega]
theorem set_bit {A B : Nat} (hA : A < 16777216) (hB : B < 16777216) {i : Nat} (hi : i < 48) : (lg_cmp (((((nI B).toInt64 <<< ((24 : Int32).toInt64 &&& 63)) ||| (nI A).toInt64).toUInt64 >>> ((nI i).toInt64.toUInt64 &&& Int64.toUInt64 63)).toInt64 &&& 1) 0 = 0) ↔ mb A B i = false := by
  rw [lg_cmp_eq, and1L, ← set_bv hA hB hi]
  generalize ((nI B).toInt64 <<< ((24 : Int32).toInt64 &&& 63)) ||| (nI A).toInt64 = x
  have e : ((x.toUInt64 >>> ((nI i).toInt64.toUInt64 &&& Int64.toUInt64 63)).toInt64).toBitVec = x.toBitVec >>> i := by
    show (x.toUInt64 >>> ((nI i).toInt64.toUInt64 &&& Int64.toUInt64 63)).toBitVec = _
    rw [UInt64.toBitVec_shiftRight]
    apply BitVec.eq_of_toNat_eq
    rw [BitVec.ushiftRight_eq', BitVec.toNat_ushiftRight, BitVec.toNat_ushiftRight, BitVec.toNat_umod]
    rw [show (64 : BitVec 64).toNat = 64 by decide, sh63 i hi]
    rfl
  rw [e, BitVec.getLsbD_ushiftRight, Nat.add_zero]
