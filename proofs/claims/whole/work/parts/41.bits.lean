/-! ===== bits of numbers ===== -/
def bb (c : Bool) : Int32 := if c then 1 else 0
theorem and_bb (x : BitVec 32) : (x &&& 1#32) = if x.getLsbD 0 then 1#32 else 0#32 := by
  apply BitVec.eq_of_getLsbD_eq
  intro i hi
  rw [BitVec.getLsbD_and]
  cases i with
  | zero => cases h : x.getLsbD 0 <;> simp
  | succ i => cases h : x.getLsbD 0 <;> simp [BitVec.getLsbD_one]
theorem bX_bb (v : Int32) {i : Nat} (hi : i < 32) : bX v i = bb (v.toBitVec.getLsbD i) := by
  apply Int32.toBitVec_inj.1
  have hs : ((nI i).toUInt32 &&& Int32.toUInt32 31).toBitVec.toNat = i := by
    have : ∀ j : Fin 32, ((nI j.1).toUInt32 &&& Int32.toUInt32 31).toBitVec.toNat = j.1 := by decide
    exact this ⟨i, hi⟩
  have e : (bX v i).toBitVec = (v.toBitVec >>> i) &&& 1#32 := by
    show (v.toUInt32 >>> ((nI i).toUInt32 &&& Int32.toUInt32 31)).toBitVec &&& 1#32 = _
    rw [UInt32.toBitVec_shiftRight]
    show (v.toBitVec >>> ((((nI i).toUInt32 &&& Int32.toUInt32 31).toBitVec) % 32#32)) &&& 1#32 = _
    rw [BitVec.ushiftRight_eq', BitVec.toNat_umod, hs]
    rw [show (32#32 : BitVec 32).toNat = 32 from rfl, Nat.mod_eq_of_lt hi]
  rw [e, and_bb]
  simp only [BitVec.getLsbD_ushiftRight, Nat.add_zero]
  cases v.toBitVec.getLsbD i <;> rfl
