/-! ===== the plain bits of the class are those of the reference ===== -/
theorem nb_small (r : Int32) {w : Nat} (hw : w ≤ 32) : nbM r.toInt64 w = nbX r w := by
  rw [nbM_bl _ _ (by omega), nbX_bl _ _ hw]
  congr 1
  apply bl_eq
  intro i hi
  show (r.toBitVec.signExtend 64).getLsbD i = _
  rw [BitVec.getLsbD_signExtend]
  have h1 : i < 64 := by omega
  have h2 : i < 32 := by omega
  simp [h1, h2]
