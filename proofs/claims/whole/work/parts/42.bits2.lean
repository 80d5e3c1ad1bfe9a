/-! ===== the plain bits of the class are those of the reference ===== -/
theorem nb_small (r : Int32) {w : Nat} (hw : w ≤ 32) : nbM r.toInt64 w = nbX r w := by
  rw [nbM_bl _ _ (by omega), nbX_bl _ _ hw]
  congr 1
  apply bl_eq
  intro i hi
  show (r.toBitVec.signExtend 64).getLsbD i = _
  rw [BitVec.getLsbD_signExtend]
  have h1 : i < 64 := by omega
  have h2 : i < 32 := by omega
  simp [h1, h2]
theorem nb_high (r : Int32) : nbM ((r >>> (18 &&& 31)).toInt64) 11 = nbX ((r.toUInt32 >>> (Int32.toUInt32 18 &&& Int32.toUInt32 31)).toInt32) 11 := by
  rw [nb_small _ (by decide), nbX_bl _ _ (by decide), nbX_bl _ _ (by decide)]
  congr 1
  apply bl_eq
  intro i hi
  have e1 : (r >>> (18 &&& 31)).toBitVec = r.toBitVec.sshiftRight 18 := by
    rw [Int32.toBitVec_shiftRight]; rfl
  have e2 : ((r.toUInt32 >>> (Int32.toUInt32 18 &&& Int32.toUInt32 31)).toInt32).toBitVec = r.toBitVec >>> 18 := by
    show (r.toUInt32 >>> (Int32.toUInt32 18 &&& Int32.toUInt32 31)).toBitVec = _
    rw [UInt32.toBitVec_shiftRight]; rfl
  rw [e1, e2, BitVec.getLsbD_sshiftRight, BitVec.getLsbD_ushiftRight]
  have h1 : ¬ 32 ≤ i := by omega
  have h2 : 18 + i < 32 := by omega
  simp [h1, h2]
theorem nb_low (r : Int32) : nbM ((r &&& 262143).toInt64) 18 = nbX r 18 := by
  rw [nb_small _ (by decide), nbX_bl _ _ (by decide), nbX_bl _ _ (by decide)]
  congr 1
  apply bl_eq
  intro i hi
  show (r.toBitVec &&& 262143#32).getLsbD i = _
  rw [BitVec.getLsbD_and]
  have : (262143#32).getLsbD i = true := by
    have h : ∀ j : Fin 18, (262143#32).getLsbD j.1 = true := by decide
    exact h ⟨i, hi⟩
  rw [this, Bool.and_true]
