/-! ===== bits of numbers ===== -/
def bb (c : Bool) : Int32 := if c then 1 else 0
theorem and_bb (x : BitVec 32) : (x &&& 1#32) = if x.getLsbD 0 then 1#32 else 0#32 := by
  apply BitVec.eq_of_getLsbD_eq
  intro i hi
  rw [BitVec.getLsbD_and]
  cases i with
  | zero => cases h : x.getLsbD 0 <;> simp
  | succ i => cases h : x.getLsbD 0 <;> simp [BitVec.getLsbD_one]
theorem bX_bb (v : Int32) {i : Nat} (hi : i < 32) : bX v i = bb (v.toBitVec.getLsbD i) := by
  apply Int32.toBitVec_inj.1
  have hs : ((nI i).toUInt32 &&& Int32.toUInt32 31).toBitVec.toNat = i := by
    have : ∀ j : Fin 32, ((nI j.1).toUInt32 &&& Int32.toUInt32 31).toBitVec.toNat = j.1 := by decide
    exact this ⟨i, hi⟩
  have e : (bX v i).toBitVec = (v.toBitVec >>> i) &&& 1#32 := by
    show (v.toUInt32 >>> ((nI i).toUInt32 &&& Int32.toUInt32 31)).toBitVec &&& 1#32 = _
    rw [UInt32.toBitVec_shiftRight]
    show (v.toBitVec >>> ((((nI i).toUInt32 &&& Int32.toUInt32 31).toBitVec) % 32#32)) &&& 1#32 = _
    rw [BitVec.ushiftRight_eq', BitVec.toNat_umod, hs]
    rw [show (32#32 : BitVec 32).toNat = 32 from rfl, Nat.mod_eq_of_lt hi]
  rw [e, and_bb]
  simp only [BitVec.getLsbD_ushiftRight, Nat.add_zero]
  cases v.toBitVec.getLsbD i <;> rfl
theorem bS_bb (v : Int32) {i : Nat} (hi : i < 32) : bS v i = bb (v.toBitVec.getLsbD i) := by
  apply Int32.toBitVec_inj.1
  have hs : ((nI i) &&& 31).toBitVec.smod 32 = BitVec.ofNat 32 i := by
    have : ∀ j : Fin 32, ((nI j.1) &&& 31).toBitVec.smod 32 = BitVec.ofNat 32 j.1 := by decide
    exact this ⟨i, hi⟩
  have e : (bS v i).toBitVec = (v.toBitVec.sshiftRight i) &&& 1#32 := by
    show (v >>> (nI i &&& 31)).toBitVec &&& 1#32 = _
    rw [Int32.toBitVec_shiftRight, hs]
    rw [BitVec.sshiftRight_eq', BitVec.toNat_ofNat, Nat.mod_eq_of_lt (by omega)]
  rw [e, and_bb]
  simp only [BitVec.getLsbD_sshiftRight, Nat.add_zero]
  have : i < 32 := hi
  simp only [this, Nat.zero_lt_succ, if_true]
  cases h : v.toBitVec.getLsbD i <;> simp <;> rfl
theorem bM_bb (v : Int64) {i : Nat} (hi : i < 64) : bM v i = bb (v.toBitVec.getLsbD i) := by
  have hs : ((nI i).toInt64 &&& 63).toBitVec.smod 64 = BitVec.ofNat 64 i := by
    have : ∀ j : Fin 64, ((nI j.1).toInt64 &&& 63).toBitVec.smod 64 = BitVec.ofNat 64 j.1 := by decide
    exact this ⟨i, hi⟩
  have e : (v >>> ((nI i).toInt64 &&& 63)).toBitVec = v.toBitVec.sshiftRight i := by
    rw [Int64.toBitVec_shiftRight, hs]
    rw [BitVec.sshiftRight_eq', BitVec.toNat_ofNat, Nat.mod_eq_of_lt (by omega)]
  apply Int32.toBitVec_inj.1
  have e2 : (bM v i).toBitVec = ((v.toBitVec.sshiftRight i) &&& 1#64).signExtend 32 := by
    show ((v >>> ((nI i).toInt64 &&& 63)).toBitVec &&& 1#64).signExtend 32 = _
    rw [e]
  rw [e2]
  apply BitVec.eq_of_getLsbD_eq
  intro j hj
  rw [BitVec.getLsbD_signExtend, BitVec.getLsbD_and, BitVec.getLsbD_sshiftRight]
  cases j with
  | zero =>
    simp [hi, bb]
    cases h : v.toBitVec[i] <;> rfl
  | succ j =>
    have : j + 1 < 64 := by omega
    simp [this, BitVec.getLsbD_one, hj]
    cases h : v.toBitVec.getLsbD i <;> simp [bb, BitVec.getLsbD_one]
theorem crc_eq (s : Int32) (c : Bool) : crcM s (bb c) = crcX s (bb c) := by
  have h1 : bX s 14 = bb (s.toBitVec.getLsbD 14) := bX_bb s (by decide)
  have h2 : bS s 14 = bb (s.toBitVec.getLsbD 14) := bS_bb s (by decide)
  have e2 : (s >>> (14 &&& 31)) &&& 1 = bb (s.toBitVec.getLsbD 14) := h2
  have e1 : ∀ b : Int32, ((s.toUInt32 >>> (Int32.toUInt32 14 &&& Int32.toUInt32 31)).toInt32 ^^^ b) &&& 1 = bb (s.toBitVec.getLsbD 14) ^^^ (b &&& 1) := by
    intro b
    rw [← h1]
    apply Int32.toBitVec_inj.1
    show (_ ^^^ _) &&& _ = (_ &&& _) ^^^ (_ &&& _)
    apply BitVec.eq_of_getLsbD_eq
    intro i hi
    simp only [BitVec.getLsbD_and, BitVec.getLsbD_xor]
    exact Bool.and_xor_distrib_right ..
  unfold crcM crcX
  rw [e2, e1]
  have e3 : bb c &&& 1 = bb c := by cases c <;> rfl
  rw [e3]
theorem crcL_eq : ∀ (l : List Bool) (s : Int32), crcL crcM (l.map bb) s = crcL crcX (l.map bb) s
  | [], _ => rfl
  | c :: l, s => by
    show crcL crcM (l.map bb) (crcM s (bb c)) = crcL crcX (l.map bb) (crcX s (bb c))
    rw [crc_eq, crcL_eq l]
def bl (f : Nat → Bool) : Nat → List Bool
  | 0 => []
  | w + 1 => f w :: bl f w
theorem bl_eq {f g : Nat → Bool} : ∀ w, (∀ i, i < w → f i = g i) → bl f w = bl g w
  | 0, _ => rfl
  | w + 1, h => by
    show f w :: bl f w = g w :: bl g w
    rw [h w (by omega), bl_eq w (fun i hi => h i (by omega))]
theorem nbX_bl (v : Int32) : ∀ w, w ≤ 32 → nbX v w = (bl v.toBitVec.getLsbD w).map bb
  | 0, _ => rfl
  | w + 1, h => by
    show bX v w :: nbX v w = bb _ :: (bl _ w).map bb
    rw [bX_bb v (by omega), nbX_bl v w (by omega)]
theorem nbS_bl (v : Int32) : ∀ w, w ≤ 32 → nbS v w = (bl v.toBitVec.getLsbD w).map bb
  | 0, _ => rfl
  | w + 1, h => by
    show bS v w :: nbS v w = bb _ :: (bl _ w).map bb
    rw [bS_bb v (by omega), nbS_bl v w (by omega)]
theorem nbM_bl (v : Int64) : ∀ w, w ≤ 64 → nbM v w = (bl v.toBitVec.getLsbD w).map bb
  | 0, _ => rfl
  | w + 1, h => by
    show bM v w :: nbM v w = bb _ :: (bl _ w).map bb
    rw [bM_bb v (by omega), nbM_bl v w (by omega)]
