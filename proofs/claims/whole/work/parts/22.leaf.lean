/-! ===== small methods, by evaluation ===== -/
def bI (p : Prop) (d : Decidable p) : Int32 := @ite _ p d 1 0
theorem bI_z (p : Prop) (d : Decidable p) : (bI p d = 0) = ¬ p := by
  unfold bI
  by_cases h : p
  · simp [h]
  · simp [h]
theorem bI_b (p : Prop) (d : Decidable p) : am_b (bI p d) = True := by
  unfold bI am_b
  by_cases h : p <;> simp [h]
theorem bI_congr {p p' : Prop} (h : p ↔ p') (d : Decidable p) (d' : Decidable p') : bI p d = bI p' d' := by
  unfold bI
  by_cases q : p
  · rw [if_pos q, if_pos (h.mp q)]
  · rw [if_neg q, if_neg (fun z => q (h.mpr z))]
theorem am_b0 : am_b 0 = True := by simp [am_b]
theorem am_b1 : am_b 1 = True := by simp [am_b]
abbrev rX : AV := .inr (.inr (some (11, 0)))
theorem s_isWithin (a b c : Int32) (σ : HS) (Q : PO) : MM 128 [.inl a, .inl b, .inl c] σ Q ↔ Q (some (.inl (bI (¬ a < b ∧ ¬ c < a) inferInstance))) σ := by
  rw [eX11_isWithin 40]
  simp only [am_run_s, bt, lf, am_in, am_ar, am_fit, am_ld, am_ct, Nat.reduceLT, Nat.reduceEqDiff, reduceIte, Nat.reduceAdd, Nat.reduceLeDiff, Nat.reduceSub, Bool.false_eq_true, if_true, if_false, ite_true, ite_false, List.length_cons, List.length_nil, Nat.zero_add, Nat.add_zero, and_true, true_and, true_or, or_true, and_self, Nat.le_refl, Nat.lt_irrefl, gI_sI, gL_sL, gQ_sQ, gI_sJ, gI_sL, gI_sQ, gL_sI, gL_sQ, gL_sJ, gQ_sI, gQ_sL, gQ_sJ, gN_sI, gN_sL, gN_sQ, gN_sJ, E_c_0, E_jg_0, E_jl_0, E_jmp_0, E_ldI_a, E_ldI_b, E_rZ_0, kX11_isWithin, am_b0, am_b1]
  by_cases h1 : a < b <;> by_cases h2 : c < a <;> simp [bI, h1, h2]
theorem s_isRank (a : Int32) (σ : HS) (Q : PO) : MM 129 [.inl a] σ Q ↔ Q (some (.inl (bI (¬ a < 0 ∧ a < 536872960) inferInstance))) σ := by
  rw [eX11_isRank 40]
  simp only [am_run_s, bt, lf, am_in, am_ar, am_fit, am_ld, am_ct, Nat.reduceLT, Nat.reduceEqDiff, reduceIte, Nat.reduceAdd, Nat.reduceLeDiff, Nat.reduceSub, Bool.false_eq_true, if_true, if_false, ite_true, ite_false, List.length_cons, List.length_nil, Nat.zero_add, Nat.add_zero, and_true, true_and, true_or, or_true, and_self, Nat.le_refl, Nat.lt_irrefl, gI_sI, gL_sL, gQ_sQ, gI_sJ, gI_sL, gI_sQ, gL_sI, gL_sQ, gL_sJ, gQ_sI, gQ_sL, gQ_sJ, gN_sI, gN_sL, gN_sQ, gN_sJ, E_c_0, E_jl_0, E_jmp_0, E_jn_0, E_ldI_a, E_ldI_b, E_rZ_0, kX11_isRank, am_b0, am_b1]
  by_cases h1 : a < 0 <;> by_cases h2 : a < 536872960 <;> simp [bI, h1, h2]
theorem s_hasWord (x : Int32) (σ : HS) (Q : PO) : MM 49 [.inr (.inr (some (6, 0))), .inl x] σ Q ↔ Q (some (.inl (bI (¬ x < 0 ∧ x < gI σ 703 0) inferInstance))) σ := by
  rw [eX6_hasWord 40]
  simp only [am_run_s, bt, lf, am_in, am_ar, am_fit, am_ld, am_ct, Nat.reduceLT, Nat.reduceEqDiff, reduceIte, Nat.reduceAdd, Nat.reduceLeDiff, Nat.reduceSub, Bool.false_eq_true, if_true, if_false, ite_true, ite_false, List.length_cons, List.length_nil, Nat.zero_add, Nat.add_zero, and_true, true_and, true_or, or_true, and_self, Nat.le_refl, Nat.lt_irrefl, gI_sI, gL_sL, gQ_sQ, gI_sJ, gI_sL, gI_sQ, gL_sI, gL_sQ, gL_sJ, gQ_sI, gQ_sL, gQ_sJ, gN_sI, gN_sL, gN_sQ, gN_sJ, E_c_0, E_getI_0, E_jl_0, E_jmp_0, E_jn_0, E_ldI_a, E_ldI_b, E_ldR_a, E_ldR_b, E_rZ_0, cC_6, kX6_hasWord, am_b0, am_b1]
  by_cases h1 : x < 0 <;> by_cases h2 : x < gI σ 703 0 <;> simp [bI, h1, h2]
theorem s_hasNode (x : Int32) (σ : HS) (Q : PO) : MM 48 [.inr (.inr (some (6, 0))), .inl x] σ Q ↔ Q (some (.inl (bI (¬ x < 0 ∧ x < gI σ 702 0) inferInstance))) σ := by
  rw [eX6_hasNode 40]
  simp only [am_run_s, bt, lf, am_in, am_ar, am_fit, am_ld, am_ct, Nat.reduceLT, Nat.reduceEqDiff, reduceIte, Nat.reduceAdd, Nat.reduceLeDiff, Nat.reduceSub, Bool.false_eq_true, if_true, if_false, ite_true, ite_false, List.length_cons, List.length_nil, Nat.zero_add, Nat.add_zero, and_true, true_and, true_or, or_true, and_self, Nat.le_refl, Nat.lt_irrefl, gI_sI, gL_sL, gQ_sQ, gI_sJ, gI_sL, gI_sQ, gL_sI, gL_sQ, gL_sJ, gQ_sI, gQ_sL, gQ_sJ, gN_sI, gN_sL, gN_sQ, gN_sJ, E_c_0, E_getI_0, E_jl_0, E_jmp_0, E_jn_0, E_ldI_a, E_ldI_b, E_ldR_a, E_ldR_b, E_rZ_0, cC_6, kX6_hasNode, am_b0, am_b1]
  by_cases h1 : x < 0 <;> by_cases h2 : x < gI σ 702 0 <;> simp [bI, h1, h2]
theorem s_refuse (k : Int32) (j : Nat) (h1 : ¬ k < -9) (h2 : ¬ -2 < k) (hj : -k = nI j) (hj2 : j < 10) (σ : HS) (Q : PO) : MM 127 [.inr (.inr (some (11, 0))), .inl k] σ Q ↔ Q (some (.inl k)) (sI σ 32 j (gI σ 32 j + 1)) := by
  rw [eX11_refuse 40]
  have h3 : vp_in (nI j) 10 := vp_in_nI hj2 (by omega)
  have h4 : (nI j).toNatClampNeg = j := nI_clamp (by omega)
  simp only [am_run_s, bt, lf, am_in, am_ar, am_fit, am_ld, am_ct, Nat.reduceLT, Nat.reduceEqDiff, reduceIte, Nat.reduceAdd, Nat.reduceLeDiff, Nat.reduceSub, Bool.false_eq_true, if_true, if_false, ite_true, ite_false, List.length_cons, List.length_nil, Nat.zero_add, Nat.add_zero, and_true, true_and, true_or, or_true, and_self, Nat.le_refl, Nat.lt_irrefl, gI_sI, gL_sL, gQ_sQ, gI_sJ, gI_sL, gI_sQ, gL_sI, gL_sQ, gL_sJ, gQ_sI, gQ_sL, gQ_sJ, gN_sI, gN_sL, gN_sQ, gN_sJ, E_b2_0, E_cS_a, E_cS_b, E_c_0, E_dup2_0, E_getR_0, E_iald_0, E_iast_0, E_jz_0, E_kk, E_ldI_a, E_ldI_b, E_ldR_a, E_ldR_b, E_rI_0, E_u1_0, aL_32, am_cc, am_pop, am_rt, cC_11, cC_32, rR_1207, kX11_refuse, ↓s_isWithin, bI_z, h1, h2, hj, h3, h4, not_true_eq_false, not_false_eq_true]
theorem s_refuse2 (σ : HS) (Q : PO) : MM 127 [.inr (.inr (some (11, 0))), .inl (-2)] σ Q ↔ Q (some (.inl (-2))) (sI σ 32 2 (gI σ 32 2 + 1)) := s_refuse (-2) 2 (by decide) (by decide) (by decide) (by decide) σ Q
theorem s_refuse3 (σ : HS) (Q : PO) : MM 127 [.inr (.inr (some (11, 0))), .inl (-3)] σ Q ↔ Q (some (.inl (-3))) (sI σ 32 3 (gI σ 32 3 + 1)) := s_refuse (-3) 3 (by decide) (by decide) (by decide) (by decide) σ Q
theorem s_refuse4 (σ : HS) (Q : PO) : MM 127 [.inr (.inr (some (11, 0))), .inl (-4)] σ Q ↔ Q (some (.inl (-4))) (sI σ 32 4 (gI σ 32 4 + 1)) := s_refuse (-4) 4 (by decide) (by decide) (by decide) (by decide) σ Q
theorem s_refuse5 (σ : HS) (Q : PO) : MM 127 [.inr (.inr (some (11, 0))), .inl (-5)] σ Q ↔ Q (some (.inl (-5))) (sI σ 32 5 (gI σ 32 5 + 1)) := s_refuse (-5) 5 (by decide) (by decide) (by decide) (by decide) σ Q
theorem s_refuse6 (σ : HS) (Q : PO) : MM 127 [.inr (.inr (some (11, 0))), .inl (-6)] σ Q ↔ Q (some (.inl (-6))) (sI σ 32 6 (gI σ 32 6 + 1)) := s_refuse (-6) 6 (by decide) (by decide) (by decide) (by decide) σ Q
theorem s_refuse7 (σ : HS) (Q : PO) : MM 127 [.inr (.inr (some (11, 0))), .inl (-7)] σ Q ↔ Q (some (.inl (-7))) (sI σ 32 7 (gI σ 32 7 + 1)) := s_refuse (-7) 7 (by decide) (by decide) (by decide) (by decide) σ Q
theorem s_refuse8 (σ : HS) (Q : PO) : MM 127 [.inr (.inr (some (11, 0))), .inl (-8)] σ Q ↔ Q (some (.inl (-8))) (sI σ 32 8 (gI σ 32 8 + 1)) := s_refuse (-8) 8 (by decide) (by decide) (by decide) (by decide) σ Q
theorem s_refuse9 (σ : HS) (Q : PO) : MM 127 [.inr (.inr (some (11, 0))), .inl (-9)] σ Q ↔ Q (some (.inl (-9))) (sI σ 32 9 (gI σ 32 9 + 1)) := s_refuse (-9) 9 (by decide) (by decide) (by decide) (by decide) σ Q
theorem s_no (k : Int32) (j : Nat) (hj : -k = nI j) (hj2 : j < 10) (σ : HS) (Q : PO) : MM 138 [.inr (.inr (some (12, 0))), .inl k] σ Q ↔ Q (some (.inl k)) (sI σ 33 j (gI σ 33 j + 1)) := by
  rw [eX12_no 40]
  have h3 : vp_in (nI j) 10 := vp_in_nI hj2 (by omega)
  have h4 : (nI j).toNatClampNeg = j := nI_clamp (by omega)
  simp only [am_run_s, bt, lf, am_in, am_ar, am_fit, am_ld, am_ct, Nat.reduceLT, Nat.reduceEqDiff, reduceIte, Nat.reduceAdd, Nat.reduceLeDiff, Nat.reduceSub, Bool.false_eq_true, if_true, if_false, ite_true, ite_false, List.length_cons, List.length_nil, Nat.zero_add, Nat.add_zero, and_true, true_and, true_or, or_true, and_self, Nat.le_refl, Nat.lt_irrefl, gI_sI, gL_sL, gQ_sQ, gI_sJ, gI_sL, gI_sQ, gL_sI, gL_sQ, gL_sJ, gQ_sI, gQ_sL, gQ_sJ, gN_sI, gN_sL, gN_sQ, gN_sJ, E_b2_0, E_c_0, E_dup2_0, E_getR_0, E_iald_0, E_iast_0, E_ldI_a, E_ldI_b, E_ldR_a, E_ldR_b, E_rI_0, E_u1_0, aL_33, cC_12, cC_33, rR_1300, kX12_no, hj, h3, h4]
theorem s_no2 (σ : HS) (Q : PO) : MM 138 [.inr (.inr (some (12, 0))), .inl (-2)] σ Q ↔ Q (some (.inl (-2))) (sI σ 33 2 (gI σ 33 2 + 1)) := s_no (-2) 2 (by decide) (by decide) σ Q
theorem s_no3 (σ : HS) (Q : PO) : MM 138 [.inr (.inr (some (12, 0))), .inl (-3)] σ Q ↔ Q (some (.inl (-3))) (sI σ 33 3 (gI σ 33 3 + 1)) := s_no (-3) 3 (by decide) (by decide) σ Q
theorem s_no4 (σ : HS) (Q : PO) : MM 138 [.inr (.inr (some (12, 0))), .inl (-4)] σ Q ↔ Q (some (.inl (-4))) (sI σ 33 4 (gI σ 33 4 + 1)) := s_no (-4) 4 (by decide) (by decide) σ Q
theorem s_no5 (σ : HS) (Q : PO) : MM 138 [.inr (.inr (some (12, 0))), .inl (-5)] σ Q ↔ Q (some (.inl (-5))) (sI σ 33 5 (gI σ 33 5 + 1)) := s_no (-5) 5 (by decide) (by decide) σ Q
theorem s_no6 (σ : HS) (Q : PO) : MM 138 [.inr (.inr (some (12, 0))), .inl (-6)] σ Q ↔ Q (some (.inl (-6))) (sI σ 33 6 (gI σ 33 6 + 1)) := s_no (-6) 6 (by decide) (by decide) σ Q
theorem s_no7 (σ : HS) (Q : PO) : MM 138 [.inr (.inr (some (12, 0))), .inl (-7)] σ Q ↔ Q (some (.inl (-7))) (sI σ 33 7 (gI σ 33 7 + 1)) := s_no (-7) 7 (by decide) (by decide) σ Q
theorem s_no8 (σ : HS) (Q : PO) : MM 138 [.inr (.inr (some (12, 0))), .inl (-8)] σ Q ↔ Q (some (.inl (-8))) (sI σ 33 8 (gI σ 33 8 + 1)) := s_no (-8) 8 (by decide) (by decide) σ Q
theorem s_no9 (σ : HS) (Q : PO) : MM 138 [.inr (.inr (some (12, 0))), .inl (-9)] σ Q ↔ Q (some (.inl (-9))) (sI σ 33 9 (gI σ 33 9 + 1)) := s_no (-9) 9 (by decide) (by decide) σ Q
theorem lc_neg (x y : Int64) : (lg_cmp x y < 0) = (x < y) := by
  unfold lg_cmp
  by_cases h1 : y < x
  · have : ¬ x < y := by rw [Int64.lt_iff_toInt_lt] at *; omega
    simp [h1, this]
  · by_cases h2 : x = y
    · subst h2; simp [h1]
    · have : x < y := by
        rw [Int64.lt_iff_toInt_lt] at *
        have : x.toInt ≠ y.toInt := fun e => h2 (Int64.toInt_inj.mp e)
        omega
      simp [h1, h2, this]
theorem lc_pos (x y : Int64) : (0 < lg_cmp x y) = (y < x) := by
  unfold lg_cmp
  by_cases h1 : y < x
  · simp [h1]
  · by_cases h2 : x = y
    · subst h2; simp [h1]
    · simp [h1, h2]
theorem lc_zero (x y : Int64) : (lg_cmp x y = 0) = (x = y) := by
  unfold lg_cmp
  by_cases h1 : y < x
  · have : ¬ x = y := by intro e; subst e; rw [Int64.lt_iff_toInt_lt] at h1; omega
    simp [h1, this]
  · by_cases h2 : x = y
    · subst h2; simp [h1]
    · simp [h1, h2]
theorem s_isIn (a b c : Int64) (σ : HS) (Q : PO) : MM 137 [.inr (.inl a), .inr (.inl b), .inr (.inl c)] σ Q ↔ Q (some (.inl (bI (¬ a < b ∧ ¬ c < a) inferInstance))) σ := by
  rw [eX12_isIn 40]
  simp only [am_run_s, bt, lf, am_in, am_ar, am_fit, am_ld, am_ct, Nat.reduceLT, Nat.reduceEqDiff, reduceIte, Nat.reduceAdd, Nat.reduceLeDiff, Nat.reduceSub, Bool.false_eq_true, if_true, if_false, ite_true, ite_false, List.length_cons, List.length_nil, Nat.zero_add, Nat.add_zero, and_true, true_and, true_or, or_true, and_self, Nat.le_refl, Nat.lt_irrefl, gI_sI, gL_sL, gQ_sQ, gI_sJ, gI_sL, gI_sQ, gL_sI, gL_sQ, gL_sJ, gQ_sI, gQ_sL, gQ_sJ, gN_sI, gN_sL, gN_sQ, gN_sJ, E_c_0, E_jmp_0, E_jn_0, E_jp_0, E_lcmp_0, E_ldL_a, E_ldL_b, E_rZ_0, kX12_isIn, am_b0, am_b1, lc_neg, lc_pos]
  by_cases h1 : a < b <;> by_cases h2 : c < a <;> simp [bI, h1, h2]
theorem i2l_lt (a b : Int32) : (a.toInt64 < b.toInt64) = (a < b) := by
  rw [Int64.lt_iff_toInt_lt, Int32.lt_iff_toInt_lt, Int32.toInt_toInt64, Int32.toInt_toInt64]
theorem s_isInI (a b c : Int32) (B C : Int64) (hB : B = b.toInt64) (hC : C = c.toInt64) (σ : HS) (Q : PO) : MM 137 [.inr (.inl a.toInt64), .inr (.inl B), .inr (.inl C)] σ Q ↔ Q (some (.inl (bI (¬ a < b ∧ ¬ c < a) inferInstance))) σ := by
  subst hB; subst hC
  rw [s_isIn, bI_congr (p' := ¬ a < b ∧ ¬ c < a) (by rw [i2l_lt, i2l_lt]) _ inferInstance]
theorem s_isInV (a c : Int32) (b : Int32) (B : Int64) (hB : B = b.toInt64) (σ : HS) (Q : PO) : MM 137 [.inr (.inl a.toInt64), .inr (.inl B), .inr (.inl c.toInt64)] σ Q ↔ Q (some (.inl (bI (¬ a < b ∧ ¬ c < a) inferInstance))) σ := s_isInI a b c B _ hB rfl σ Q
theorem s_isIn0 (a c : Int32) (σ : HS) (Q : PO) : MM 137 [.inr (.inl a.toInt64), .inr (.inl 0), .inr (.inl c.toInt64)] σ Q ↔ Q (some (.inl (bI (¬ a < 0 ∧ ¬ c < a) inferInstance))) σ := s_isInV a c 0 0 (by decide) σ Q
theorem s_isIn0_3 (a : Int32) (σ : HS) (Q : PO) : MM 137 [.inr (.inl a.toInt64), .inr (.inl 0), .inr (.inl 3)] σ Q ↔ Q (some (.inl (bI (¬ a < 0 ∧ ¬ 3 < a) inferInstance))) σ := s_isInI a 0 3 _ _ (by decide) (by decide) σ Q
theorem s_isIn0_8 (a : Int32) (σ : HS) (Q : PO) : MM 137 [.inr (.inl a.toInt64), .inr (.inl 0), .inr (.inl 8)] σ Q ↔ Q (some (.inl (bI (¬ a < 0 ∧ ¬ 8 < a) inferInstance))) σ := s_isInI a 0 8 _ _ (by decide) (by decide) σ Q
theorem s_isIn0_536872959 (a : Int32) (σ : HS) (Q : PO) : MM 137 [.inr (.inl a.toInt64), .inr (.inl 0), .inr (.inl 536872959)] σ Q ↔ Q (some (.inl (bI (¬ a < 0 ∧ ¬ 536872959 < a) inferInstance))) σ := s_isInI a 0 536872959 _ _ (by decide) (by decide) σ Q
theorem s_isIn100_100000 (a : Int32) (σ : HS) (Q : PO) : MM 137 [.inr (.inl a.toInt64), .inr (.inl 100), .inr (.inl 100000)] σ Q ↔ Q (some (.inl (bI (¬ a < 100 ∧ ¬ 100000 < a) inferInstance))) σ := s_isInI a 100 100000 _ _ (by decide) (by decide) σ Q
theorem s_isIn0_100000 (a : Int32) (σ : HS) (Q : PO) : MM 137 [.inr (.inl a.toInt64), .inr (.inl 0), .inr (.inl 100000)] σ Q ↔ Q (some (.inl (bI (¬ a < 0 ∧ ¬ 100000 < a) inferInstance))) σ := s_isInI a 0 100000 _ _ (by decide) (by decide) σ Q
theorem s_isIn0_1000 (a : Int32) (σ : HS) (Q : PO) : MM 137 [.inr (.inl a.toInt64), .inr (.inl 0), .inr (.inl 1000)] σ Q ↔ Q (some (.inl (bI (¬ a < 0 ∧ ¬ 1000 < a) inferInstance))) σ := s_isInI a 0 1000 _ _ (by decide) (by decide) σ Q
theorem s_isIn1_1000000 (a : Int32) (σ : HS) (Q : PO) : MM 137 [.inr (.inl a.toInt64), .inr (.inl 1), .inr (.inl 1000000)] σ Q ↔ Q (some (.inl (bI (¬ a < 1 ∧ ¬ 1000000 < a) inferInstance))) σ := s_isInI a 1 1000000 _ _ (by decide) (by decide) σ Q
theorem s_isIn0_4 (a : Int32) (σ : HS) (Q : PO) : MM 137 [.inr (.inl a.toInt64), .inr (.inl 0), .inr (.inl 4)] σ Q ↔ Q (some (.inl (bI (¬ a < 0 ∧ ¬ 4 < a) inferInstance))) σ := s_isInI a 0 4 _ _ (by decide) (by decide) σ Q
theorem s_isIn1_5000 (a : Int32) (σ : HS) (Q : PO) : MM 137 [.inr (.inl a.toInt64), .inr (.inl 1), .inr (.inl 5000)] σ Q ↔ Q (some (.inl (bI (¬ a < 1 ∧ ¬ 5000 < a) inferInstance))) σ := s_isInI a 1 5000 _ _ (by decide) (by decide) σ Q
theorem s_isIn100_1000000 (a : Int32) (σ : HS) (Q : PO) : MM 137 [.inr (.inl a.toInt64), .inr (.inl 100), .inr (.inl 1000000)] σ Q ↔ Q (some (.inl (bI (¬ a < 100 ∧ ¬ 1000000 < a) inferInstance))) σ := s_isInI a 100 1000000 _ _ (by decide) (by decide) σ Q
theorem s_isInm9_m2 (a : Int32) (σ : HS) (Q : PO) : MM 137 [.inr (.inl a.toInt64), .inr (.inl (-9)), .inr (.inl (-2))] σ Q ↔ Q (some (.inl (bI (¬ a < (-9) ∧ ¬ (-2) < a) inferInstance))) σ := s_isInI a (-9) (-2) _ _ (by decide) (by decide) σ Q
theorem s_MisRank (a : Int32) (σ : HS) (Q : PO) : MM 141 [.inl a] σ Q ↔ Q (some (.inl (bI (¬ a < 0 ∧ ¬ 536872959 < a) inferInstance))) σ := by
  rw [eX12_isRank 40]
  simp only [am_run_s, bt, lf, am_in, am_ar, am_fit, am_ld, am_ct, Nat.reduceLT, Nat.reduceEqDiff, reduceIte, Nat.reduceAdd, Nat.reduceLeDiff, Nat.reduceSub, Bool.false_eq_true, if_true, if_false, ite_true, ite_false, List.length_cons, List.length_nil, Nat.zero_add, Nat.add_zero, and_true, true_and, true_or, or_true, and_self, Nat.le_refl, Nat.lt_irrefl, gI_sI, gL_sL, gQ_sQ, gI_sJ, gI_sL, gI_sQ, gL_sI, gL_sQ, gL_sJ, gQ_sI, gQ_sL, gQ_sJ, gN_sI, gN_sL, gN_sQ, gN_sJ, E_cS_a, E_cS_b, E_c_0, E_i2l_0, E_kk, E_ldI_a, E_ldI_b, E_rZ_0, am_cc, am_pop, am_rt, kX12_isRank, ↓s_isIn0_536872959, bI_b]
theorem s_isWord (x : Int32) (σ : HS) (Q : PO) : MM 140 [.inr (.inr (some (12, 0))), .inl x] σ Q ↔ Q (some (.inl (bI (¬ x < 0 ∧ x < gI σ 1314 0) inferInstance))) σ := by
  rw [eX12_isWord 40]
  simp only [am_run_s, bt, lf, am_in, am_ar, am_fit, am_ld, am_ct, Nat.reduceLT, Nat.reduceEqDiff, reduceIte, Nat.reduceAdd, Nat.reduceLeDiff, Nat.reduceSub, Bool.false_eq_true, if_true, if_false, ite_true, ite_false, List.length_cons, List.length_nil, Nat.zero_add, Nat.add_zero, and_true, true_and, true_or, or_true, and_self, Nat.le_refl, Nat.lt_irrefl, gI_sI, gL_sL, gQ_sQ, gI_sJ, gI_sL, gI_sQ, gL_sI, gL_sQ, gL_sJ, gQ_sI, gQ_sL, gQ_sJ, gN_sI, gN_sL, gN_sQ, gN_sJ, E_c_0, E_getI_0, E_jl_0, E_jmp_0, E_jn_0, E_ldI_a, E_ldI_b, E_ldR_a, E_ldR_b, E_rZ_0, cC_12, kX12_isWord, am_b0, am_b1]
  by_cases h1 : x < 0 <;> by_cases h2 : x < gI σ 1314 0 <;> simp [bI, h1, h2]
theorem s_isNode (x : Int32) (σ : HS) (Q : PO) : MM 139 [.inr (.inr (some (12, 0))), .inl x] σ Q ↔ Q (some (.inl (bI (¬ x < 0 ∧ x < gI σ 1313 0) inferInstance))) σ := by
  rw [eX12_isNode 40]
  simp only [am_run_s, bt, lf, am_in, am_ar, am_fit, am_ld, am_ct, Nat.reduceLT, Nat.reduceEqDiff, reduceIte, Nat.reduceAdd, Nat.reduceLeDiff, Nat.reduceSub, Bool.false_eq_true, if_true, if_false, ite_true, ite_false, List.length_cons, List.length_nil, Nat.zero_add, Nat.add_zero, and_true, true_and, true_or, or_true, and_self, Nat.le_refl, Nat.lt_irrefl, gI_sI, gL_sL, gQ_sQ, gI_sJ, gI_sL, gI_sQ, gL_sI, gL_sQ, gL_sJ, gQ_sI, gQ_sL, gQ_sJ, gN_sI, gN_sL, gN_sQ, gN_sJ, E_c_0, E_getI_0, E_jl_0, E_jmp_0, E_jn_0, E_ldI_a, E_ldI_b, E_ldR_a, E_ldR_b, E_rZ_0, cC_12, kX12_isNode, am_b0, am_b1]
  by_cases h1 : x < 0 <;> by_cases h2 : x < gI σ 1313 0 <;> simp [bI, h1, h2]
theorem s_lookAll (σ : HS) (Q : PO) : MM 62 [.inr (.inr (some (9, 0)))] σ Q ↔ Q none (sI σ 1015 0 0) := by
  rw [eX9_lookAtAllWords 40]
  simp only [am_run_s, bt, lf, am_in, am_ar, am_fit, am_ld, am_ct, Nat.reduceLT, Nat.reduceEqDiff, reduceIte, Nat.reduceAdd, Nat.reduceLeDiff, Nat.reduceSub, Bool.false_eq_true, if_true, if_false, ite_true, ite_false, List.length_cons, List.length_nil, Nat.zero_add, Nat.add_zero, and_true, true_and, true_or, or_true, and_self, Nat.le_refl, Nat.lt_irrefl, gI_sI, gL_sL, gQ_sQ, gI_sJ, gI_sL, gI_sQ, gL_sI, gL_sQ, gL_sJ, gQ_sI, gQ_sL, gQ_sJ, gN_sI, gN_sL, gN_sQ, gN_sJ, E_c_0, E_ldR_a, E_ldR_b, E_putI_0, E_rV_0, cC_9, kX9_lookAtAllWords]
theorem s_forgetOrder (σ : HS) (Q : PO) : MM 1 [.inr (.inr (some (0, 0)))] σ Q ↔ Q none (sI σ 106 0 0) := by
  rw [eX0_forgetOrder 40]
  simp only [am_run_s, bt, lf, am_in, am_ar, am_fit, am_ld, am_ct, Nat.reduceLT, Nat.reduceEqDiff, reduceIte, Nat.reduceAdd, Nat.reduceLeDiff, Nat.reduceSub, Bool.false_eq_true, if_true, if_false, ite_true, ite_false, List.length_cons, List.length_nil, Nat.zero_add, Nat.add_zero, and_true, true_and, true_or, or_true, and_self, Nat.le_refl, Nat.lt_irrefl, gI_sI, gL_sL, gQ_sQ, gI_sJ, gI_sL, gI_sQ, gL_sI, gL_sQ, gL_sJ, gQ_sI, gQ_sL, gQ_sJ, gN_sI, gN_sL, gN_sQ, gN_sJ, E_c_0, E_ldR_a, E_ldR_b, E_putZ_0, E_rV_0, cC_0, kX0_forgetOrder, am_b0]
theorem s_nodeIsOff (i : Nat) (σ : HS) (Q : PO) (h : i < gN σ 3) : MM 26 [.inr (.inr (some (3, i)))] σ Q ↔ Q (some (.inl (bI (¬ gI σ 401 i < 256) inferInstance))) σ := by
  rw [eX3_isOff 40]
  simp only [am_run_s, bt, lf, am_in, am_ar, am_fit, am_ld, am_ct, Nat.reduceLT, Nat.reduceEqDiff, reduceIte, Nat.reduceAdd, Nat.reduceLeDiff, Nat.reduceSub, Bool.false_eq_true, if_true, if_false, ite_true, ite_false, List.length_cons, List.length_nil, Nat.zero_add, Nat.add_zero, and_true, true_and, true_or, or_true, and_self, Nat.le_refl, Nat.lt_irrefl, gI_sI, gL_sL, gQ_sQ, gI_sJ, gI_sL, gI_sQ, gL_sI, gL_sQ, gL_sJ, gQ_sI, gQ_sL, gQ_sJ, gN_sI, gN_sL, gN_sQ, gN_sJ, E_c_0, E_getI_0, E_jl_0, E_jmp_0, E_ldR_a, E_ldR_b, E_rZ_0, cC_3, kX3_isOff, am_b0, am_b1, h]
  by_cases h1 : gI σ 401 i < 256 <;> simp [bI, h1]
theorem s_MisOff (j : Nat) (σ : HS) (Q : PO) (h : j < 10) : MM 175 [.inr (.inr (some (12, 0))), .inl (nI j)] σ Q ↔ Q (some (.inl (bI (¬ gI σ 34 j < 256) inferInstance))) σ := by
  rw [eX12_isOff 40]
  have h3 : vp_in (nI j) 10 := vp_in_nI h (by omega)
  have h4 : (nI j).toNatClampNeg = j := nI_clamp (by omega)
  simp only [am_run_s, bt, lf, am_in, am_ar, am_fit, am_ld, am_ct, Nat.reduceLT, Nat.reduceEqDiff, reduceIte, Nat.reduceAdd, Nat.reduceLeDiff, Nat.reduceSub, Bool.false_eq_true, if_true, if_false, ite_true, ite_false, List.length_cons, List.length_nil, Nat.zero_add, Nat.add_zero, and_true, true_and, true_or, or_true, and_self, Nat.le_refl, Nat.lt_irrefl, gI_sI, gL_sL, gQ_sQ, gI_sJ, gI_sL, gI_sQ, gL_sI, gL_sQ, gL_sJ, gQ_sI, gQ_sL, gQ_sJ, gN_sI, gN_sL, gN_sQ, gN_sJ, E_c_0, E_getR_0, E_iald_0, E_jl_0, E_jmp_0, E_ldI_a, E_ldI_b, E_ldR_a, E_ldR_b, E_rZ_0, aL_34, cC_12, cC_34, rR_1301, kX12_isOff, am_b0, am_b1, h3, h4]
  by_cases h1 : gI σ 34 j < 256 <;> simp [bI, h1]
theorem s_hasBit (x : Int32) (σ : HS) (Q : PO) : MM 58 [.inr (.inr (some (8, 0))), .inl x] σ Q ↔ Q (some (.inl (bI (¬ x < 0 ∧ x < gI σ 901 0) inferInstance))) σ := by
  rw [eX8_hasBit 40]
  simp only [am_run_s, bt, lf, am_in, am_ar, am_fit, am_ld, am_ct, Nat.reduceLT, Nat.reduceEqDiff, reduceIte, Nat.reduceAdd, Nat.reduceLeDiff, Nat.reduceSub, Bool.false_eq_true, if_true, if_false, ite_true, ite_false, List.length_cons, List.length_nil, Nat.zero_add, Nat.add_zero, and_true, true_and, true_or, or_true, and_self, Nat.le_refl, Nat.lt_irrefl, gI_sI, gL_sL, gQ_sQ, gI_sJ, gI_sL, gI_sQ, gL_sI, gL_sQ, gL_sJ, gQ_sI, gQ_sL, gQ_sJ, gN_sI, gN_sL, gN_sQ, gN_sJ, E_c_0, E_getI_0, E_jl_0, E_jmp_0, E_jn_0, E_ldI_a, E_ldI_b, E_ldR_a, E_ldR_b, E_rZ_0, cC_8, kX8_hasBit, am_b0, am_b1]
  by_cases h1 : x < 0 <;> by_cases h2 : x < gI σ 901 0 <;> simp [bI, h1, h2]
theorem s_hasRoom (x : Int32) (σ : HS) (Q : PO) : MM 57 [.inr (.inr (some (8, 0))), .inl x] σ Q ↔ Q (some (.inl (bI (¬ 2000 - gI σ 901 0 < x) inferInstance))) σ := by
  rw [eX8_hasRoom 40]
  simp only [am_run_s, bt, lf, am_in, am_ar, am_fit, am_ld, am_ct, Nat.reduceLT, Nat.reduceEqDiff, reduceIte, Nat.reduceAdd, Nat.reduceLeDiff, Nat.reduceSub, Bool.false_eq_true, if_true, if_false, ite_true, ite_false, List.length_cons, List.length_nil, Nat.zero_add, Nat.add_zero, and_true, true_and, true_or, or_true, and_self, Nat.le_refl, Nat.lt_irrefl, gI_sI, gL_sL, gQ_sQ, gI_sJ, gI_sL, gI_sQ, gL_sI, gL_sQ, gL_sJ, gQ_sI, gQ_sL, gQ_sJ, gN_sI, gN_sL, gN_sQ, gN_sJ, E_b2_0, E_c_0, E_getI_0, E_jg_0, E_jmp_0, E_ldI_a, E_ldI_b, E_ldR_a, E_ldR_b, E_rZ_0, cC_8, kX8_hasRoom, am_b0, am_b1]
  by_cases h2 : 2000 - gI σ 901 0 < x <;> simp [bI, h2]
theorem s_append (x : Int32) (n : Nat) (hn : n < 2000) (σ : HS) (Q : PO) (h : gI σ 901 0 = nI n) : MM 59 [.inr (.inr (some (8, 0))), .inl x] σ Q ↔ Q none (sI (sI σ 31 n x) 901 0 (nI (n + 1))) := by
  rw [eX8_append 40]
  have h3 : vp_in (nI n) 2000 := vp_in_nI hn (by omega)
  have h4 : (nI n).toNatClampNeg = n := nI_clamp (by omega)
  have h5 : nI n < 2000 := by
    have : (2000 : Int32) = nI 2000 := by decide
    rw [this]; exact nI_lt hn (by omega)
  simp only [am_run_s, bt, lf, am_in, am_ar, am_fit, am_ld, am_ct, Nat.reduceLT, Nat.reduceEqDiff, reduceIte, Nat.reduceAdd, Nat.reduceLeDiff, Nat.reduceSub, Bool.false_eq_true, if_true, if_false, ite_true, ite_false, List.length_cons, List.length_nil, Nat.zero_add, Nat.add_zero, and_true, true_and, true_or, or_true, and_self, Nat.le_refl, Nat.lt_irrefl, gI_sI, gL_sL, gQ_sQ, gI_sJ, gI_sL, gI_sQ, gL_sI, gL_sQ, gL_sJ, gQ_sI, gQ_sL, gQ_sJ, gN_sI, gN_sL, gN_sQ, gN_sJ, E_b2_0, E_c_0, E_dup_0, E_dup_1, E_getI_0, E_getR_0, E_iast_0, E_jl_0, E_ldI_a, E_ldI_b, E_ldR_a, E_ldR_b, E_putI_0, E_rV_0, aL_31, cC_31, cC_8, rR_900, kX8_append, h, h3, h4, h5, nI_1]
theorem s_hasEntry (x : Int32) (σ : HS) (Q : PO) : MM 23 [.inr (.inr (some (2, 0))), .inl x] σ Q ↔ Q (some (.inl (bI (¬ x < 0 ∧ x < gI σ 304 0) inferInstance))) σ := by
  rw [eX2_hasEntry 40]
  simp only [am_run_s, bt, lf, am_in, am_ar, am_fit, am_ld, am_ct, Nat.reduceLT, Nat.reduceEqDiff, reduceIte, Nat.reduceAdd, Nat.reduceLeDiff, Nat.reduceSub, Bool.false_eq_true, if_true, if_false, ite_true, ite_false, List.length_cons, List.length_nil, Nat.zero_add, Nat.add_zero, and_true, true_and, true_or, or_true, and_self, Nat.le_refl, Nat.lt_irrefl, gI_sI, gL_sL, gQ_sQ, gI_sJ, gI_sL, gI_sQ, gL_sI, gL_sQ, gL_sJ, gQ_sI, gQ_sL, gQ_sJ, gN_sI, gN_sL, gN_sQ, gN_sJ, E_c_0, E_getI_0, E_jl_0, E_jmp_0, E_jn_0, E_ldI_a, E_ldI_b, E_ldR_a, E_ldR_b, E_rZ_0, cC_2, kX2_hasEntry, am_b0, am_b1]
  by_cases h1 : x < 0 <;> by_cases h2 : x < gI σ 304 0 <;> simp [bI, h1, h2]
theorem s_hasStretch (x n : Int32) (σ : HS) (Q : PO) : MM 55 [.inr (.inr (some (7, 0))), .inl x, .inl n] σ Q ↔ Q (some (.inl (bI (¬ x < 0 ∧ ¬ gI σ 801 0 - x < n) inferInstance))) σ := by
  rw [eX7_hasStretch 40]
  simp only [am_run_s, bt, lf, am_in, am_ar, am_fit, am_ld, am_ct, Nat.reduceLT, Nat.reduceEqDiff, reduceIte, Nat.reduceAdd, Nat.reduceLeDiff, Nat.reduceSub, Bool.false_eq_true, if_true, if_false, ite_true, ite_false, List.length_cons, List.length_nil, Nat.zero_add, Nat.add_zero, and_true, true_and, true_or, or_true, and_self, Nat.le_refl, Nat.lt_irrefl, gI_sI, gL_sL, gQ_sQ, gI_sJ, gI_sL, gI_sQ, gL_sI, gL_sQ, gL_sJ, gQ_sI, gQ_sL, gQ_sJ, gN_sI, gN_sL, gN_sQ, gN_sJ, E_b2_0, E_c_0, E_getI_0, E_jg_0, E_jmp_0, E_jn_0, E_ldI_a, E_ldI_b, E_ldR_a, E_ldR_b, E_rZ_0, cC_7, kX7_hasStretch, am_b0, am_b1]
  by_cases h1 : x < 0 <;> by_cases h2 : gI σ 801 0 - x < n <;> simp [bI, h1, h2]
def kI (r : Int32) : Int32 := if r < 2048 then r <<< (19 &&& 31) else (((r - 2048) >>> (18 &&& 31)) <<< (19 &&& 31)) ||| 262144 ||| ((r - 2048) &&& 262143)
theorem s_key (r : Int32) (σ : HS) (Q : PO) : MM 159 [.inl r] σ Q ↔ Q (some (.inl (kI r))) σ := by
  rw [eX12_key 60]
  simp only [am_run_s, bt, lf, am_in, am_ar, am_fit, am_ld, am_ct, Nat.reduceLT, Nat.reduceEqDiff, reduceIte, Nat.reduceAdd, Nat.reduceLeDiff, Nat.reduceSub, Bool.false_eq_true, if_true, if_false, ite_true, ite_false, List.length_cons, List.length_nil, Nat.zero_add, Nat.add_zero, and_true, true_and, true_or, or_true, and_self, Nat.le_refl, Nat.lt_irrefl, gI_sI, gL_sL, gQ_sQ, gI_sJ, gI_sL, gI_sQ, gL_sI, gL_sQ, gL_sJ, gQ_sI, gQ_sL, gQ_sJ, gN_sI, gN_sL, gN_sQ, gN_sJ, E_b2_0, E_c_0, E_jl_0, E_ldI_a, E_ldI_b, E_rI_0, E_stI_0, am_nl, am_ok, am_set, kX12_key]
  unfold kI
  by_cases h1 : r < 2048 <;> simp [h1]
theorem s_isAhead (w o : Nat) (hw : w < 24) (ho : o < 24) (σ : HS) (Q : PO) : MM 160 [.inr (.inr (some (12, 0))), .inl (nI w), .inl (nI o)] σ Q ↔ Q (some (.inl (bI (kI (gI σ 38 w) < kI (gI σ 38 o)) inferInstance))) σ := by
  rw [eX12_isAhead 60]
  have h3 : vp_in (nI w) 24 := vp_in_nI hw (by omega)
  have h4 : (nI w).toNatClampNeg = w := nI_clamp (by omega)
  have h5 : vp_in (nI o) 24 := vp_in_nI ho (by omega)
  have h6 : (nI o).toNatClampNeg = o := nI_clamp (by omega)
  simp only [am_run_s, bt, lf, am_in, am_ar, am_fit, am_ld, am_ct, Nat.reduceLT, Nat.reduceEqDiff, reduceIte, Nat.reduceAdd, Nat.reduceLeDiff, Nat.reduceSub, Bool.false_eq_true, if_true, if_false, ite_true, ite_false, List.length_cons, List.length_nil, Nat.zero_add, Nat.add_zero, and_true, true_and, true_or, or_true, and_self, Nat.le_refl, Nat.lt_irrefl, gI_sI, gL_sL, gQ_sQ, gI_sJ, gI_sL, gI_sQ, gL_sI, gL_sQ, gL_sJ, gQ_sI, gQ_sL, gQ_sJ, gN_sI, gN_sL, gN_sQ, gN_sJ, E_cS_a, E_cS_b, E_c_0, E_getR_0, E_iald_0, E_jl_0, E_jmp_0, E_kk, E_ldI_a, E_ldI_b, E_ldR_a, E_ldR_b, E_rZ_0, aL_38, am_cc, am_pop, am_rt, cC_12, cC_38, rR_1305, kX12_isAhead, am_b0, am_b1, h3, h4, h5, h6, ↓s_key]
  by_cases h1 : kI (gI σ 38 w) < kI (gI σ 38 o) <;> simp [bI, h1]
def kX (r : Int32) : Int32 := if r < 2048 then r <<< (19 &&& 31) else ((((((r - 2048).toUInt32 >>> (Int32.toUInt32 18 &&& Int32.toUInt32 31)).toInt32) <<< (1 &&& 31)) ||| 1) <<< (18 &&& 31)) ||| ((r - 2048) &&& 262143)
theorem s_rankKey (i : Nat) (σ : HS) (Q : PO) (h : i < gN σ 10) : MM 84 [.inr (.inr (some (10, i)))] σ Q ↔ Q (some (.inl (kX (gI σ 1102 i)))) σ := by
  rw [eX10_rankKey 60]
  simp only [am_run_s, bt, lf, am_in, am_ar, am_fit, am_ld, am_ct, Nat.reduceLT, Nat.reduceEqDiff, reduceIte, Nat.reduceAdd, Nat.reduceLeDiff, Nat.reduceSub, Bool.false_eq_true, if_true, if_false, ite_true, ite_false, List.length_cons, List.length_nil, Nat.zero_add, Nat.add_zero, and_true, true_and, true_or, or_true, and_self, Nat.le_refl, Nat.lt_irrefl, gI_sI, gL_sL, gQ_sQ, gI_sJ, gI_sL, gI_sQ, gL_sI, gL_sQ, gL_sJ, gQ_sI, gQ_sL, gQ_sJ, gN_sI, gN_sL, gN_sQ, gN_sJ, E_b2_0, E_c_0, E_getI_0, E_jl_0, E_ldI_a, E_ldI_b, E_ldR_a, E_ldR_b, E_rI_0, E_stI_0, am_nl, am_ok, am_set, cC_10, kX10_rankKey, h]
  unfold kX
  by_cases h1 : gI σ 1102 i < 2048 <;> simp [h1]
theorem s_goesAhead (i j : Nat) (σ : HS) (Q : PO) (hi : i < gN σ 10) (hj : j < gN σ 10) : MM 83 [.inr (.inr (some (10, i))), .inr (.inr (some (10, j)))] σ Q ↔ Q (some (.inl (bI (kX (gI σ 1102 i) < kX (gI σ 1102 j)) inferInstance))) σ := by
  rw [eX10_goesAheadOf 60]
  simp only [am_run_s, bt, lf, am_in, am_ar, am_fit, am_ld, am_ct, Nat.reduceLT, Nat.reduceEqDiff, reduceIte, Nat.reduceAdd, Nat.reduceLeDiff, Nat.reduceSub, Bool.false_eq_true, if_true, if_false, ite_true, ite_false, List.length_cons, List.length_nil, Nat.zero_add, Nat.add_zero, and_true, true_and, true_or, or_true, and_self, Nat.le_refl, Nat.lt_irrefl, gI_sI, gL_sL, gQ_sQ, gI_sJ, gI_sL, gI_sQ, gL_sI, gL_sQ, gL_sJ, gQ_sI, gQ_sL, gQ_sJ, gN_sI, gN_sL, gN_sQ, gN_sJ, E_cV_a, E_cV_b, E_c_0, E_jl_0, E_jmp_0, E_kk, E_ldR_a, E_ldR_b, E_rZ_0, am_cc, am_pop, am_rt, cC_10, kX10_goesAheadOf, am_b0, am_b1, hi, hj, ↓s_rankKey]
  by_cases h1 : kX (gI σ 1102 i) < kX (gI σ 1102 j) <;> simp [bI, h1]
def cI (n r : Int32) : Int32 := (32 + 8 * n + if r < 2048 then 0 else 18) + ((32 + 8 * n + if r < 2048 then 0 else 18) - 1) / 4 + 13
theorem s_cost (i : Nat) (σ : HS) (Q : PO) (h : i < gN σ 10) : MM 85 [.inr (.inr (some (10, i)))] σ Q ↔ Q (some (.inl (cI (gI σ 1104 i) (gI σ 1102 i)))) σ := by
  rw [eX10_cost 60]
  have h4 : ¬ (4 : Int32) = 0 := by decide
  simp only [am_run_s, bt, lf, am_in, am_ar, am_fit, am_ld, am_ct, Nat.reduceLT, Nat.reduceEqDiff, reduceIte, Nat.reduceAdd, Nat.reduceLeDiff, Nat.reduceSub, Bool.false_eq_true, if_true, if_false, ite_true, ite_false, List.length_cons, List.length_nil, Nat.zero_add, Nat.add_zero, and_true, true_and, true_or, or_true, and_self, Nat.le_refl, Nat.lt_irrefl, gI_sI, gL_sL, gQ_sQ, gI_sJ, gI_sL, gI_sQ, gL_sI, gL_sQ, gL_sJ, gQ_sI, gQ_sL, gQ_sJ, gN_sI, gN_sL, gN_sQ, gN_sJ, E_b2_0, E_b2n_0, E_c_0, E_getI_0, E_jl_0, E_jmp_0, E_ldI_a, E_ldI_b, E_ldR_a, E_ldR_b, E_rI_0, E_stI_0, am_nl, am_ok, am_set, cC_10, kX10_cost, h, h4]
  unfold cI
  by_cases h1 : gI σ 1102 i < 2048 <;> simp [h1]
theorem s_mostOf (w : Nat) (hw : w < 24) (σ : HS) (Q : PO) : MM 193 [.inr (.inr (some (12, 0))), .inl (nI w)] σ Q ↔ Q (some (.inl (cI (gI σ 40 w) (gI σ 38 w)))) σ := by
  rw [eX12_mostOf 60]
  have h3 : vp_in (nI w) 24 := vp_in_nI hw (by omega)
  have h4 : (nI w).toNatClampNeg = w := nI_clamp (by omega)
  have h5 : ¬ (4 : Int32) = 0 := by decide
  simp only [am_run_s, bt, lf, am_in, am_ar, am_fit, am_ld, am_ct, Nat.reduceLT, Nat.reduceEqDiff, reduceIte, Nat.reduceAdd, Nat.reduceLeDiff, Nat.reduceSub, Bool.false_eq_true, if_true, if_false, ite_true, ite_false, List.length_cons, List.length_nil, Nat.zero_add, Nat.add_zero, and_true, true_and, true_or, or_true, and_self, Nat.le_refl, Nat.lt_irrefl, gI_sI, gL_sL, gQ_sQ, gI_sJ, gI_sL, gI_sQ, gL_sI, gL_sQ, gL_sJ, gQ_sI, gQ_sL, gQ_sJ, gN_sI, gN_sL, gN_sQ, gN_sJ, E_b2_0, E_b2n_0, E_c_0, E_getR_0, E_iald_0, E_jl_0, E_jmp_0, E_ldI_a, E_ldI_b, E_ldR_a, E_ldR_b, E_rI_0, E_stI_0, aL_38, aL_40, am_nl, am_ok, am_set, cC_12, cC_38, cC_40, rR_1305, rR_1307, kX12_mostOf, h3, h4, h5]
  unfold cI
  by_cases h1 : gI σ 38 w < 2048 <;> simp [h1]
