/-! ===== the calls: simple ones ===== -/
theorem ix (x : Int32) {n : Nat} (hn : n ≤ 5000) : (∃ j : Nat, j < n ∧ x = nI j) ∨ (¬ (¬ x < 0 ∧ x < nI n)) := by
  rcases pk_ix x (n := n) (by omega) with h | h | h
  · exact Or.inr (fun z => z.1 h)
  · exact Or.inr (fun z => (am_nlt h) z.2)
  · exact Or.inl h
theorem nI_f {j : Nat} (h : j < 2147483648) : (nI j < 0) = False := eq_false (nI_pos h)
theorem nI_t {j n : Nat} (h : j < n) (hn : n < 2147483648) : (nI j < nI n) = True := eq_true (nI_lt h hn)
theorem api_wipe : apiI 105 165 [] := by
  intro k σ hk h
  rw [eX11_wipe 40]
  simp only [am_run_s, bt, lf, am_in, am_ar, am_fit, am_ld, am_ct, Nat.reduceLT, Nat.reduceEqDiff, reduceIte, Nat.reduceAdd, Nat.reduceLeDiff, Nat.reduceSub, Bool.false_eq_true, if_true, if_false, ite_true, ite_false, List.length_cons, List.length_nil, Nat.zero_add, Nat.add_zero, and_true, true_and, true_or, or_true, and_self, Nat.le_refl, Nat.lt_irrefl, gI_sI, gL_sL, gQ_sQ, gI_sJ, gI_sL, gI_sQ, gL_sI, gL_sQ, gL_sJ, gQ_sI, gQ_sL, gQ_sJ, gN_sI, gN_sL, gN_sQ, gN_sJ, E_c_0, E_getI_0, E_getR_0, E_ldI_a, E_ldI_b, E_ldR_a, E_ldR_b, E_putI_0, E_rI_0, E_stI_0, am_nl, am_ok, am_set, cC_11, cC_8, rR_1202, kX11_wipe]
  rw [eX12_wipe 40]
  simp only [am_run_s, bt, lf, am_in, am_ar, am_fit, am_ld, am_ct, Nat.reduceLT, Nat.reduceEqDiff, reduceIte, Nat.reduceAdd, Nat.reduceLeDiff, Nat.reduceSub, Bool.false_eq_true, if_true, if_false, ite_true, ite_false, List.length_cons, List.length_nil, Nat.zero_add, Nat.add_zero, and_true, true_and, true_or, or_true, and_self, Nat.le_refl, Nat.lt_irrefl, gI_sI, gL_sL, gQ_sQ, gI_sJ, gI_sL, gI_sQ, gL_sI, gL_sQ, gL_sJ, gQ_sI, gQ_sL, gQ_sJ, gN_sI, gN_sL, gN_sQ, gN_sJ, E_c_0, E_getI_0, E_ldI_a, E_ldI_b, E_ldR_a, E_ldR_b, E_putI_0, E_rI_0, E_stI_0, am_nl, am_ok, am_set, cC_12, kX12_wipe]
  obtain ⟨n, hn, h1, h2, h3⟩ := h.2.2.2.1
  refine ⟨⟨_, rfl, by rw [h1, h2]⟩, h.1, h.2.1, h.2.2.1.up, ⟨0, by omega, rfl, rfl, fun j hj => absurd hj (by omega)⟩, h.2.2.2.2⟩
theorem api_tear : apiI 123 209 [] := by
  intro k σ hk h
  rw [eX11_tear 40]
  obtain ⟨hr, hb⟩ := h.2.2.2.2.2.2.2.1
  have ha : ∀ (A B : Prop), v_row (sI (sI σ 802 0 0) 1366 0 (-1)) (sI (sI σ 802 0 0) 1366 0 (-1)) := fun _ _ => ⟨Or.inl ⟨rfl, rfl⟩, hb⟩
  rcases hr with ⟨h1, h2⟩ | ⟨r, h0, h1, h2, h3, h4⟩
  · simp only [am_run_s, bt, lf, am_in, am_ar, am_fit, am_ld, am_ct, Nat.reduceLT, Nat.reduceEqDiff, reduceIte, Nat.reduceAdd, Nat.reduceLeDiff, Nat.reduceSub, Bool.false_eq_true, if_true, if_false, ite_true, ite_false, List.length_cons, List.length_nil, Nat.zero_add, Nat.add_zero, and_true, true_and, true_or, or_true, and_self, Nat.le_refl, Nat.lt_irrefl, gI_sI, gL_sL, gQ_sQ, gI_sJ, gI_sL, gI_sQ, gL_sI, gL_sQ, gL_sJ, gQ_sI, gQ_sL, gQ_sJ, gN_sI, gN_sL, gN_sQ, gN_sJ, E_c_0, E_getI_0, E_getR_0, E_jmp_0, E_jz_0, E_ldI_a, E_ldI_b, E_ldR_a, E_ldR_b, E_putZ_0, E_rI_0, E_stI_0, am_nl, am_ok, am_set, cC_11, cC_7, rR_1206, kX11_tear, h1, am_b0]
    rw [eX12_tear 40]
    have : ((-1 : Int32) < 0) = True := by decide
    simp only [am_run_s, bt, lf, am_in, am_ar, am_fit, am_ld, am_ct, Nat.reduceLT, Nat.reduceEqDiff, reduceIte, Nat.reduceAdd, Nat.reduceLeDiff, Nat.reduceSub, Bool.false_eq_true, if_true, if_false, ite_true, ite_false, List.length_cons, List.length_nil, Nat.zero_add, Nat.add_zero, and_true, true_and, true_or, or_true, and_self, Nat.le_refl, Nat.lt_irrefl, gI_sI, gL_sL, gQ_sQ, gI_sJ, gI_sL, gI_sQ, gL_sI, gL_sQ, gL_sJ, gQ_sI, gQ_sL, gQ_sJ, gN_sI, gN_sL, gN_sQ, gN_sJ, E_c_0, E_getI_0, E_jmp_0, E_jn_0, E_ldI_a, E_ldI_b, E_ldR_a, E_ldR_b, E_putI_0, E_rI_0, E_stI_0, am_nl, am_ok, am_set, cC_12, kX12_tear, h2, this]
    exact ⟨⟨_, rfl, rfl⟩, h.1, h.2.1, h.2.2.1.up, h.2.2.2.1, h.2.2.2.2.1, h.2.2.2.2.2.1, h.2.2.2.2.2.2.1, ha True True, h.2.2.2.2.2.2.2.2⟩
  · have h5 : ¬ (1 : Int32) = 0 := by decide
    simp only [am_run_s, bt, lf, am_in, am_ar, am_fit, am_ld, am_ct, Nat.reduceLT, Nat.reduceEqDiff, reduceIte, Nat.reduceAdd, Nat.reduceLeDiff, Nat.reduceSub, Bool.false_eq_true, if_true, if_false, ite_true, ite_false, List.length_cons, List.length_nil, Nat.zero_add, Nat.add_zero, and_true, true_and, true_or, or_true, and_self, Nat.le_refl, Nat.lt_irrefl, gI_sI, gL_sL, gQ_sQ, gI_sJ, gI_sL, gI_sQ, gL_sI, gL_sQ, gL_sJ, gQ_sI, gQ_sL, gQ_sJ, gN_sI, gN_sL, gN_sQ, gN_sJ, E_c_0, E_getI_0, E_getR_0, E_jmp_0, E_jz_0, E_ldI_a, E_ldI_b, E_ldR_a, E_ldR_b, E_putZ_0, E_rI_0, E_stI_0, am_nl, am_ok, am_set, cC_11, cC_7, rR_1206, kX11_tear, h1, am_b0, h5]
    rw [eX12_tear 40]
    simp only [am_run_s, bt, lf, am_in, am_ar, am_fit, am_ld, am_ct, Nat.reduceLT, Nat.reduceEqDiff, reduceIte, Nat.reduceAdd, Nat.reduceLeDiff, Nat.reduceSub, Bool.false_eq_true, if_true, if_false, ite_true, ite_false, List.length_cons, List.length_nil, Nat.zero_add, Nat.add_zero, and_true, true_and, true_or, or_true, and_self, Nat.le_refl, Nat.lt_irrefl, gI_sI, gL_sL, gQ_sQ, gI_sJ, gI_sL, gI_sQ, gL_sI, gL_sQ, gL_sJ, gQ_sI, gQ_sL, gQ_sJ, gN_sI, gN_sL, gN_sQ, gN_sJ, E_c_0, E_getI_0, E_jmp_0, E_jn_0, E_ldI_a, E_ldI_b, E_ldR_a, E_ldR_b, E_putI_0, E_rI_0, E_stI_0, am_nl, am_ok, am_set, cC_12, kX12_tear, h3, nI_f (show r < 2147483648 by omega)]
    exact ⟨⟨_, rfl, rfl⟩, h.1, h.2.1, h.2.2.1.up, h.2.2.2.1, h.2.2.2.2.1, h.2.2.2.2.2.1, h.2.2.2.2.2.2.1, ha True True, h.2.2.2.2.2.2.2.2⟩
theorem api_bytes : apiL 108 174 [] := by
  intro k σ hk h
  rw [eX11_bytes 40]
  simp only [am_run_s, bt, lf, am_in, am_ar, am_fit, am_ld, am_ct, Nat.reduceLT, Nat.reduceEqDiff, reduceIte, Nat.reduceAdd, Nat.reduceLeDiff, Nat.reduceSub, Bool.false_eq_true, if_true, if_false, ite_true, ite_false, List.length_cons, List.length_nil, Nat.zero_add, Nat.add_zero, and_true, true_and, true_or, or_true, and_self, Nat.le_refl, Nat.lt_irrefl, gI_sI, gL_sL, gQ_sQ, gI_sJ, gI_sL, gI_sQ, gL_sI, gL_sQ, gL_sJ, gQ_sI, gQ_sL, gQ_sJ, gN_sI, gN_sL, gN_sQ, gN_sJ, E_getL_0, E_getR_0, E_ldR_a, E_ldR_b, E_rL_0, cC_11, cC_5, rR_1203, kX11_bytes]
  rw [eX12_bytes 40]
  simp only [am_run_s, bt, lf, am_in, am_ar, am_fit, am_ld, am_ct, Nat.reduceLT, Nat.reduceEqDiff, reduceIte, Nat.reduceAdd, Nat.reduceLeDiff, Nat.reduceSub, Bool.false_eq_true, if_true, if_false, ite_true, ite_false, List.length_cons, List.length_nil, Nat.zero_add, Nat.add_zero, and_true, true_and, true_or, or_true, and_self, Nat.le_refl, Nat.lt_irrefl, gI_sI, gL_sL, gQ_sQ, gI_sJ, gI_sL, gI_sQ, gL_sI, gL_sQ, gL_sJ, gQ_sI, gQ_sL, gQ_sJ, gN_sI, gN_sL, gN_sQ, gN_sJ, E_getL_0, E_ldR_a, E_ldR_b, E_rL_0, cC_12, kX12_bytes]
  exact ⟨⟨_, rfl, by rw [h.2.2.2.2.1.2.2.1]⟩, h.up⟩
theorem api_status (b : Int32) : apiI 126 212 [.inl b] := by
  intro k σ hk h
  rw [eX11_status 40]
  by_cases hb : ¬ b < -9 ∧ ¬ -2 < b
  · obtain ⟨j, hj, hj2⟩ : ∃ j : Nat, -b = nI j ∧ j < 10 := by
      obtain ⟨h1, h2⟩ := hb
      rw [Int32.lt_iff_toInt_lt] at h1 h2
      have e9 : (-9 : Int32).toInt = -9 := by decide
      have e2 : (-2 : Int32).toInt = -2 := by decide
      rw [e9] at h1
      rw [e2] at h2
      have hn : (-b).toInt = - b.toInt := by
        rw [Int32.toInt_neg, Int.bmod_eq_of_le]
        · omega
        · omega
      refine ⟨(-b.toInt).toNat, ?_, by omega⟩
      apply Int32.toInt_inj.mp
      rw [hn, nI_toInt (by omega)]
      omega
    have h3 : vp_in (nI j) 10 := vp_in_nI hj2 (by omega)
    have h4 : (nI j).toNatClampNeg = j := nI_clamp (by omega)
    simp only [am_run_s, bt, lf, am_in, am_ar, am_fit, am_ld, am_ct, Nat.reduceLT, Nat.reduceEqDiff, reduceIte, Nat.reduceAdd, Nat.reduceLeDiff, Nat.reduceSub, Bool.false_eq_true, if_true, if_false, ite_true, ite_false, List.length_cons, List.length_nil, Nat.zero_add, Nat.add_zero, and_true, true_and, true_or, or_true, and_self, Nat.le_refl, Nat.lt_irrefl, gI_sI, gL_sL, gQ_sQ, gI_sJ, gI_sL, gI_sQ, gL_sI, gL_sQ, gL_sJ, gQ_sI, gQ_sL, gQ_sJ, gN_sI, gN_sL, gN_sQ, gN_sJ, E_cS_a, E_cS_b, E_cV_a, E_cV_b, E_c_0, E_getR_0, E_iald_0, E_jz_0, E_kk, E_ldI_a, E_ldI_b, E_ldR_a, E_ldR_b, E_rI_0, E_u1_0, aL_32, am_cc, am_pop, am_rt, cC_11, cC_32, rR_1207, kX11_status, ↓s_isWithin, bI_z, hb, not_true_eq_false, not_false_eq_true, hj, h3, h4]
    rw [eX12_status 40]
    simp only [am_run_s, bt, lf, am_in, am_ar, am_fit, am_ld, am_ct, Nat.reduceLT, Nat.reduceEqDiff, reduceIte, Nat.reduceAdd, Nat.reduceLeDiff, Nat.reduceSub, Bool.false_eq_true, if_true, if_false, ite_true, ite_false, List.length_cons, List.length_nil, Nat.zero_add, Nat.add_zero, and_true, true_and, true_or, or_true, and_self, Nat.le_refl, Nat.lt_irrefl, gI_sI, gL_sL, gQ_sQ, gI_sJ, gI_sL, gI_sQ, gL_sI, gL_sQ, gL_sJ, gQ_sI, gQ_sL, gQ_sJ, gN_sI, gN_sL, gN_sQ, gN_sJ, E_cS_a, E_cS_b, E_cV_a, E_cV_b, E_c_0, E_getR_0, E_i2l_0, E_iald_0, E_jmp_0, E_jz_0, E_kk, E_ldI_a, E_ldI_b, E_ldR_a, E_ldR_b, E_rI_0, E_u1_0, aL_33, am_cc, am_pop, am_rt, cC_12, cC_33, rR_1300, kX12_status, ↓s_isInm9_m2, bI_z, hb, not_true_eq_false, not_false_eq_true, hj, h3, h4]
    exact ⟨⟨_, rfl, by rw [h.1.2.1 j]⟩, h.up⟩
  · simp only [am_run_s, bt, lf, am_in, am_ar, am_fit, am_ld, am_ct, Nat.reduceLT, Nat.reduceEqDiff, reduceIte, Nat.reduceAdd, Nat.reduceLeDiff, Nat.reduceSub, Bool.false_eq_true, if_true, if_false, ite_true, ite_false, List.length_cons, List.length_nil, Nat.zero_add, Nat.add_zero, and_true, true_and, true_or, or_true, and_self, Nat.le_refl, Nat.lt_irrefl, gI_sI, gL_sL, gQ_sQ, gI_sJ, gI_sL, gI_sQ, gL_sI, gL_sQ, gL_sJ, gQ_sI, gQ_sL, gQ_sJ, gN_sI, gN_sL, gN_sQ, gN_sJ, E_cS_a, E_cS_b, E_cV_a, E_cV_b, E_c_0, E_getR_0, E_iald_0, E_jz_0, E_kk, E_ldI_a, E_ldI_b, E_ldR_a, E_ldR_b, E_rI_0, E_u1_0, aL_32, am_cc, am_pop, am_rt, cC_11, cC_32, rR_1207, kX11_status, ↓s_isWithin, bI_z, hb, not_false_eq_true, ↓s_refuse7]
    rw [eX12_status 40]
    simp only [am_run_s, bt, lf, am_in, am_ar, am_fit, am_ld, am_ct, Nat.reduceLT, Nat.reduceEqDiff, reduceIte, Nat.reduceAdd, Nat.reduceLeDiff, Nat.reduceSub, Bool.false_eq_true, if_true, if_false, ite_true, ite_false, List.length_cons, List.length_nil, Nat.zero_add, Nat.add_zero, and_true, true_and, true_or, or_true, and_self, Nat.le_refl, Nat.lt_irrefl, gI_sI, gL_sL, gQ_sQ, gI_sJ, gI_sL, gI_sQ, gL_sI, gL_sQ, gL_sJ, gQ_sI, gQ_sL, gQ_sJ, gN_sI, gN_sL, gN_sQ, gN_sJ, E_cS_a, E_cS_b, E_cV_a, E_cV_b, E_c_0, E_getR_0, E_i2l_0, E_iald_0, E_jmp_0, E_jz_0, E_kk, E_ldI_a, E_ldI_b, E_ldR_a, E_ldR_b, E_rI_0, E_u1_0, aL_33, am_cc, am_pop, am_rt, cC_12, cC_33, rR_1300, kX12_status, ↓s_isInm9_m2, bI_z, hb, not_false_eq_true, ↓s_no7]
    exact ⟨⟨_, rfl, rfl⟩, h.refuse⟩
/-- the next numbers of words and nodes -/
theorem Inv.wc {k : Nat} {σ : HS} (h : Inv k σ) : gI σ 703 0 = nI (gN σ 10) ∧ gI σ 1314 0 = nI (gN σ 10) ∧ gN σ 10 ≤ 24 := ⟨h.1.1.2.2.2.2.1, h.1.1.2.2.2.2.2, h.1.1.2.1⟩
theorem Inv.nc {k : Nat} {σ : HS} (h : Inv k σ) : gI σ 702 0 = nI (gN σ 3) ∧ gI σ 1313 0 = nI (gN σ 3) ∧ gN σ 3 ≤ 10 := ⟨h.1.1.2.2.1, h.1.1.2.2.2.1, h.1.1.1⟩
theorem api_most (x : Int32) : apiI 115 194 [.inl x] := by
  intro k σ hk h
  obtain ⟨hw1, hw2, hw⟩ := h.wc
  rw [eX11_most 40]
  rcases ix x (n := gN σ 10) (by omega) with ⟨j, hj, rfl⟩ | hx
  · have h1 := nI_f (j := j) (by omega)
    have h2 := nI_t hj (by omega)
    have h3 : vp_in (nI j) 24 := vp_in_nI (by omega) (by omega)
    have h4 : (nI j).toNatClampNeg = j := nI_clamp (by omega)
    have hq := (h.2.1.1 j hj)
    simp only [am_run_s, bt, lf, am_in, am_ar, am_fit, am_ld, am_ct, Nat.reduceLT, Nat.reduceEqDiff, reduceIte, Nat.reduceAdd, Nat.reduceLeDiff, Nat.reduceSub, Bool.false_eq_true, if_true, if_false, ite_true, ite_false, List.length_cons, List.length_nil, Nat.zero_add, Nat.add_zero, and_true, true_and, true_or, or_true, and_self, Nat.le_refl, Nat.lt_irrefl, gI_sI, gL_sL, gQ_sQ, gI_sJ, gI_sL, gI_sQ, gL_sI, gL_sQ, gL_sJ, gQ_sI, gQ_sL, gQ_sJ, gN_sI, gN_sL, gN_sQ, gN_sJ, E_aald_0, E_cV_a, E_cV_b, E_c_0, E_getR_0, E_jz_0, E_kk, E_ldI_a, E_ldI_b, E_ldR_a, E_ldR_b, E_rI_0, aL_91, am_cc, am_pop, am_rt, cC_10, cC_11, cC_6, cC_91, rQ_91, rR_1200, rR_701, sN_91, kX11_most, ↓s_hasWord, bI_z, hw1, h1, h2, h3, h4, hq.1, hj, not_true_eq_false, not_false_eq_true, ↓s_cost]
    rw [eX12_most 40]
    simp only [am_run_s, bt, lf, am_in, am_ar, am_fit, am_ld, am_ct, Nat.reduceLT, Nat.reduceEqDiff, reduceIte, Nat.reduceAdd, Nat.reduceLeDiff, Nat.reduceSub, Bool.false_eq_true, if_true, if_false, ite_true, ite_false, List.length_cons, List.length_nil, Nat.zero_add, Nat.add_zero, and_true, true_and, true_or, or_true, and_self, Nat.le_refl, Nat.lt_irrefl, gI_sI, gL_sL, gQ_sQ, gI_sJ, gI_sL, gI_sQ, gL_sI, gL_sQ, gL_sJ, gQ_sI, gQ_sL, gQ_sJ, gN_sI, gN_sL, gN_sQ, gN_sJ, E_cV_a, E_cV_b, E_c_0, E_jmp_0, E_jz_0, E_kk, E_ldI_a, E_ldI_b, E_ldR_a, E_ldR_b, E_rI_0, am_cc, am_pop, am_rt, cC_12, kX12_most, ↓s_isWord, bI_z, hw2, h1, h2, not_true_eq_false, not_false_eq_true, ↓s_mostOf j (show j < 24 by omega)]
    exact ⟨⟨_, rfl, by rw [hq.2.2.2.1, (h.2.1.2.2.1.1 j hj).1]⟩, h.up⟩
  · simp only [am_run_s, bt, lf, am_in, am_ar, am_fit, am_ld, am_ct, Nat.reduceLT, Nat.reduceEqDiff, reduceIte, Nat.reduceAdd, Nat.reduceLeDiff, Nat.reduceSub, Bool.false_eq_true, if_true, if_false, ite_true, ite_false, List.length_cons, List.length_nil, Nat.zero_add, Nat.add_zero, and_true, true_and, true_or, or_true, and_self, Nat.le_refl, Nat.lt_irrefl, gI_sI, gL_sL, gQ_sQ, gI_sJ, gI_sL, gI_sQ, gL_sI, gL_sQ, gL_sJ, gQ_sI, gQ_sL, gQ_sJ, gN_sI, gN_sL, gN_sQ, gN_sJ, E_aald_0, E_cV_a, E_cV_b, E_c_0, E_getR_0, E_jz_0, E_kk, E_ldI_a, E_ldI_b, E_ldR_a, E_ldR_b, E_rI_0, aL_91, am_cc, am_pop, am_rt, cC_10, cC_11, cC_6, cC_91, rQ_91, rR_1200, rR_701, sN_91, kX11_most, ↓s_hasWord, bI_z, hw1, hx, not_false_eq_true, ↓s_refuse3]
    rw [eX12_most 40]
    simp only [am_run_s, bt, lf, am_in, am_ar, am_fit, am_ld, am_ct, Nat.reduceLT, Nat.reduceEqDiff, reduceIte, Nat.reduceAdd, Nat.reduceLeDiff, Nat.reduceSub, Bool.false_eq_true, if_true, if_false, ite_true, ite_false, List.length_cons, List.length_nil, Nat.zero_add, Nat.add_zero, and_true, true_and, true_or, or_true, and_self, Nat.le_refl, Nat.lt_irrefl, gI_sI, gL_sL, gQ_sQ, gI_sJ, gI_sL, gI_sQ, gL_sI, gL_sQ, gL_sJ, gQ_sI, gQ_sL, gQ_sJ, gN_sI, gN_sL, gN_sQ, gN_sJ, E_cV_a, E_cV_b, E_c_0, E_jmp_0, E_jz_0, E_kk, E_ldI_a, E_ldI_b, E_ldR_a, E_ldR_b, E_rI_0, am_cc, am_pop, am_rt, cC_12, kX12_most, ↓s_isWord, bI_z, hw2, gN_sI, gI_sI, Nat.reduceEqDiff, reduceIte, hx, not_false_eq_true, ↓s_no3]
    exact ⟨⟨_, rfl, rfl⟩, h.refuse⟩
