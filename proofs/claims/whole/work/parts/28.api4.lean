/-! ===== more calls ===== -/
theorem s_nodeAnswer (j : Nat) (w : Int32) (σ : HS) (Q : PO) (hj : j < gN σ 3) : MM 27 [.inr (.inr (some (3, j))), .inl w] σ Q ↔ Q (some (.inl (if w = 0 then gI σ 401 j else if w = 1 then (if gI σ 401 j < 256 then (if gI σ 401 j < 128 then 0 else 1) else 2) else gI σ 403 j))) σ := by
  rw [eX3_answer 60]
  simp only [am_run_s, bt, lf, am_in, am_ar, am_fit, am_ld, am_ct, Nat.reduceLT, Nat.reduceEqDiff, reduceIte, Nat.reduceAdd, Nat.reduceLeDiff, Nat.reduceSub, Bool.false_eq_true, if_true, if_false, ite_true, ite_false, List.length_cons, List.length_nil, Nat.zero_add, Nat.add_zero, and_true, true_and, true_or, or_true, and_self, Nat.le_refl, Nat.lt_irrefl, gI_sI, gL_sL, gQ_sQ, gI_sJ, gI_sL, gI_sQ, gL_sI, gL_sQ, gL_sJ, gQ_sI, gQ_sL, gQ_sJ, gN_sI, gN_sL, gN_sQ, gN_sJ, E_cV_a, E_cV_b, E_c_0, E_getI_0, E_jl_0, E_jmp_0, E_jz_0, E_kk, E_ldI_a, E_ldI_b, E_ldR_a, E_ldR_b, E_rI_0, E_sw_0, E_sw_c, E_sw_n, am_cc, am_pop, am_rt, cC_3, kX3_answer, hj, ↓s_nodeIsOff j σ _ hj, bI_z, Q_ite]
  by_cases h0 : w = 0
  · simp only [h0, if_true]
  · by_cases h1 : w = 1
    · by_cases h2 : gI σ 401 j < 256 <;> by_cases h3 : gI σ 401 j < 128 <;> simp [h1, h2, h3]
    · simp only [h0, h1, if_false]
theorem api_about (x w : Int32) : apiI 96 150 [.inl x, .inl w] := by
  intro k σ hk h
  obtain ⟨hw1, hw2, hw⟩ := h.nc
  rw [eX11_about 60]
  rcases ix x (n := gN σ 3) (by omega) with ⟨j, hj, rfl⟩ | hx
  · have h1 := nI_f (j := j) (by omega)
    have h2 := nI_t hj (by omega)
    have h3 : vp_in (nI j) 10 := vp_in_nI (by omega) (by omega)
    have h4 : (nI j).toNatClampNeg = j := nI_clamp (by omega)
    have hq := h.1.2.2.1 j hj
    by_cases hb : ¬ w < 0 ∧ ¬ 2 < w
    · simp only [am_run_s, bt, lf, am_in, am_ar, am_fit, am_ld, am_ct, Nat.reduceLT, Nat.reduceEqDiff, reduceIte, Nat.reduceAdd, Nat.reduceLeDiff, Nat.reduceSub, Bool.false_eq_true, if_true, if_false, ite_true, ite_false, List.length_cons, List.length_nil, Nat.zero_add, Nat.add_zero, and_true, true_and, true_or, or_true, and_self, Nat.le_refl, Nat.lt_irrefl, gI_sI, gL_sL, gQ_sQ, gI_sJ, gI_sL, gI_sQ, gL_sI, gL_sQ, gL_sJ, gQ_sI, gQ_sL, gQ_sJ, gN_sI, gN_sL, gN_sQ, gN_sJ, E_aald_0, E_cS_a, E_cS_b, E_cV_a, E_cV_b, E_c_0, E_getR_0, E_jz_0, E_kk, E_ldI_a, E_ldI_b, E_ldR_a, E_ldR_b, E_rI_0, aL_90, am_cc, am_pop, am_rt, cC_11, cC_3, cC_6, cC_90, rQ_90, rR_1200, rR_700, sN_90, kX11_about, ↓s_hasNode, ↓s_isWithin, bI_z, not_true_eq_false, not_false_eq_true, hw1, h1, h2, h3, h4, hq.1, hj, hb, ↓s_nodeAnswer j w σ _ hj]
      rw [eX12_about 60]
      simp only [am_run_s, bt, lf, am_in, am_ar, am_fit, am_ld, am_ct, Nat.reduceLT, Nat.reduceEqDiff, reduceIte, Nat.reduceAdd, Nat.reduceLeDiff, Nat.reduceSub, Bool.false_eq_true, if_true, if_false, ite_true, ite_false, List.length_cons, List.length_nil, Nat.zero_add, Nat.add_zero, and_true, true_and, true_or, or_true, and_self, Nat.le_refl, Nat.lt_irrefl, gI_sI, gL_sL, gQ_sQ, gI_sJ, gI_sL, gI_sQ, gL_sI, gL_sQ, gL_sJ, gQ_sI, gQ_sL, gQ_sJ, gN_sI, gN_sL, gN_sQ, gN_sJ, E_cV_a, E_cV_b, E_c_0, E_getR_0, E_iald_0, E_jl_0, E_jmp_0, E_jz_0, E_kk, E_ldI_a, E_ldI_b, E_ldR_a, E_ldR_b, E_rI_0, E_sw_0, E_sw_c, E_sw_n, aL_34, aL_36, am_cc, am_pop, am_rt, cC_12, cC_34, cC_36, rR_1301, rR_1303, kX12_about, ↓s_isNode, bI_z, not_true_eq_false, not_false_eq_true, hw2, h1, h2, h3, h4, ↓s_no7]
      obtain ⟨n, hn, rfl⟩ : ∃ n : Nat, n < 3 ∧ w = nI n := by
        rcases pk_ix w (n := 3) (by omega) with q | q | ⟨n, q1, q2⟩
        · exact absurd q hb.1
        · exact absurd (by
            have e : nI 3 = 3 := by decide
            rw [e] at q
            have ea : (2 : Int32).toInt = 2 := by decide
            have eb : (3 : Int32).toInt = 3 := by decide
            rw [Int32.le_iff_toInt_le, eb] at q
            rw [Int32.lt_iff_toInt_lt, ea]; omega) hb.2
        · exact ⟨n, q1, q2⟩
      have e0 : nI 0 = 0 := by decide
      have e1 : nI 1 = 1 := by decide
      have e2 : nI 2 = 2 := by decide
      rcases (show n = 0 ∨ n = 1 ∨ n = 2 by omega) with rfl | rfl | rfl
      · rw [e0]; simp (decide := true) only [if_true, if_false]; exact ⟨⟨_, rfl, by rw [hq.2.2.1]⟩, h.up⟩
      · rw [e1]; simp (decide := true) only [if_true, if_false]
        rw [hq.2.2.1]
        by_cases q : gI σ 34 j < 128
        · have q2 : gI σ 34 j < 256 := by
            have ea : (128 : Int32).toInt = 128 := by decide
            have eb : (256 : Int32).toInt = 256 := by decide
            rw [Int32.lt_iff_toInt_lt] at q ⊢
            rw [ea] at q; rw [eb]; omega
          rw [if_pos q, if_pos q2, if_pos q]; exact ⟨⟨_, rfl, rfl⟩, h.up⟩
        · by_cases q2 : gI σ 34 j < 256
          · rw [if_neg q, if_pos q2, if_pos q2, if_neg q]; exact ⟨⟨_, rfl, rfl⟩, h.up⟩
          · rw [if_neg q, if_neg q2, if_neg q2]; exact ⟨⟨_, rfl, rfl⟩, h.up⟩
      · rw [e2]; simp (decide := true) only [if_true, if_false]; exact ⟨⟨_, rfl, by rw [hq.2.2.2.2]⟩, h.up⟩
    · simp only [am_run_s, bt, lf, am_in, am_ar, am_fit, am_ld, am_ct, Nat.reduceLT, Nat.reduceEqDiff, reduceIte, Nat.reduceAdd, Nat.reduceLeDiff, Nat.reduceSub, Bool.false_eq_true, if_true, if_false, ite_true, ite_false, List.length_cons, List.length_nil, Nat.zero_add, Nat.add_zero, and_true, true_and, true_or, or_true, and_self, Nat.le_refl, Nat.lt_irrefl, gI_sI, gL_sL, gQ_sQ, gI_sJ, gI_sL, gI_sQ, gL_sI, gL_sQ, gL_sJ, gQ_sI, gQ_sL, gQ_sJ, gN_sI, gN_sL, gN_sQ, gN_sJ, E_aald_0, E_cS_a, E_cS_b, E_cV_a, E_cV_b, E_c_0, E_getR_0, E_jz_0, E_kk, E_ldI_a, E_ldI_b, E_ldR_a, E_ldR_b, E_rI_0, aL_90, am_cc, am_pop, am_rt, cC_11, cC_3, cC_6, cC_90, rQ_90, rR_1200, rR_700, sN_90, kX11_about, ↓s_hasNode, ↓s_isWithin, bI_z, not_true_eq_false, not_false_eq_true, hw1, h1, h2, hb, ↓s_refuse7]
      rw [eX12_about 60]
      simp only [am_run_s, bt, lf, am_in, am_ar, am_fit, am_ld, am_ct, Nat.reduceLT, Nat.reduceEqDiff, reduceIte, Nat.reduceAdd, Nat.reduceLeDiff, Nat.reduceSub, Bool.false_eq_true, if_true, if_false, ite_true, ite_false, List.length_cons, List.length_nil, Nat.zero_add, Nat.add_zero, and_true, true_and, true_or, or_true, and_self, Nat.le_refl, Nat.lt_irrefl, gI_sI, gL_sL, gQ_sQ, gI_sJ, gI_sL, gI_sQ, gL_sI, gL_sQ, gL_sJ, gQ_sI, gQ_sL, gQ_sJ, gN_sI, gN_sL, gN_sQ, gN_sJ, E_cV_a, E_cV_b, E_c_0, E_getR_0, E_iald_0, E_jl_0, E_jmp_0, E_jz_0, E_kk, E_ldI_a, E_ldI_b, E_ldR_a, E_ldR_b, E_rI_0, E_sw_0, E_sw_c, E_sw_n, aL_34, aL_36, am_cc, am_pop, am_rt, cC_12, cC_34, cC_36, rR_1301, rR_1303, kX12_about, ↓s_isNode, bI_z, not_true_eq_false, not_false_eq_true, hw2, h1, h2, h3, h4, ↓s_no7]
      have hne : ∀ v : Int32, ¬ v < 0 → ¬ 2 < v → ¬ w = v := fun v q1 q2 e => hb (by rw [e]; exact ⟨q1, q2⟩)
      rw [if_neg (hne 0 (by decide) (by decide)), if_neg (hne 1 (by decide) (by decide)), if_neg (hne 2 (by decide) (by decide))]
      exact ⟨⟨_, rfl, rfl⟩, h.refuse⟩
  · simp only [am_run_s, bt, lf, am_in, am_ar, am_fit, am_ld, am_ct, Nat.reduceLT, Nat.reduceEqDiff, reduceIte, Nat.reduceAdd, Nat.reduceLeDiff, Nat.reduceSub, Bool.false_eq_true, if_true, if_false, ite_true, ite_false, List.length_cons, List.length_nil, Nat.zero_add, Nat.add_zero, and_true, true_and, true_or, or_true, and_self, Nat.le_refl, Nat.lt_irrefl, gI_sI, gL_sL, gQ_sQ, gI_sJ, gI_sL, gI_sQ, gL_sI, gL_sQ, gL_sJ, gQ_sI, gQ_sL, gQ_sJ, gN_sI, gN_sL, gN_sQ, gN_sJ, E_aald_0, E_cS_a, E_cS_b, E_cV_a, E_cV_b, E_c_0, E_getR_0, E_jz_0, E_kk, E_ldI_a, E_ldI_b, E_ldR_a, E_ldR_b, E_rI_0, aL_90, am_cc, am_pop, am_rt, cC_11, cC_3, cC_6, cC_90, rQ_90, rR_1200, rR_700, sN_90, kX11_about, ↓s_hasNode, bI_z, not_true_eq_false, not_false_eq_true, hw1, hx, ↓s_refuse3]
    rw [eX12_about 60]
    simp only [am_run_s, bt, lf, am_in, am_ar, am_fit, am_ld, am_ct, Nat.reduceLT, Nat.reduceEqDiff, reduceIte, Nat.reduceAdd, Nat.reduceLeDiff, Nat.reduceSub, Bool.false_eq_true, if_true, if_false, ite_true, ite_false, List.length_cons, List.length_nil, Nat.zero_add, Nat.add_zero, and_true, true_and, true_or, or_true, and_self, Nat.le_refl, Nat.lt_irrefl, gI_sI, gL_sL, gQ_sQ, gI_sJ, gI_sL, gI_sQ, gL_sI, gL_sQ, gL_sJ, gQ_sI, gQ_sL, gQ_sJ, gN_sI, gN_sL, gN_sQ, gN_sJ, E_cV_a, E_cV_b, E_c_0, E_getR_0, E_iald_0, E_jl_0, E_jmp_0, E_jz_0, E_kk, E_ldI_a, E_ldI_b, E_ldR_a, E_ldR_b, E_rI_0, E_sw_0, E_sw_c, E_sw_n, aL_34, aL_36, am_cc, am_pop, am_rt, cC_12, cC_34, cC_36, rR_1301, rR_1303, kX12_about, ↓s_isNode, bI_z, not_true_eq_false, not_false_eq_true, hw2, gN_sI, gI_sI, Nat.reduceEqDiff, reduceIte, hx, ↓s_no3]
    exact ⟨⟨_, rfl, rfl⟩, h.refuse⟩

theorem api_ahead (x y : Int32) : apiI 101 161 [.inl x, .inl y] := by
  intro k σ hk h
  obtain ⟨hw1, hw2, hw⟩ := h.wc
  rw [eX11_ahead 60]
  rcases ix x (n := gN σ 10) (by omega) with ⟨j, hj, rfl⟩ | hx
  · have h1 := nI_f (j := j) (by omega)
    have h2 := nI_t hj (by omega)
    have h3 : vp_in (nI j) 24 := vp_in_nI (by omega) (by omega)
    have h4 : (nI j).toNatClampNeg = j := nI_clamp (by omega)
    have hq := h.2.1.1 j hj
    rcases ix y (n := gN σ 10) (by omega) with ⟨i, hi, rfl⟩ | hy
    · have g1 := nI_f (j := i) (by omega)
      have g2 := nI_t hi (by omega)
      have g3 : vp_in (nI i) 24 := vp_in_nI (by omega) (by omega)
      have g4 : (nI i).toNatClampNeg = i := nI_clamp (by omega)
      have gq := h.2.1.1 i hi
      by_cases e : kX (gI σ 1102 i) < kX (gI σ 1102 j)
      · simp only [am_run_s, bt, lf, am_in, am_ar, am_fit, am_ld, am_ct, Nat.reduceLT, Nat.reduceEqDiff, reduceIte, Nat.reduceAdd, Nat.reduceLeDiff, Nat.reduceSub, Bool.false_eq_true, if_true, if_false, ite_true, ite_false, List.length_cons, List.length_nil, Nat.zero_add, Nat.add_zero, and_true, true_and, true_or, or_true, and_self, Nat.le_refl, Nat.lt_irrefl, gI_sI, gL_sL, gQ_sQ, gI_sJ, gI_sL, gI_sQ, gL_sI, gL_sQ, gL_sJ, gQ_sI, gQ_sL, gQ_sJ, gN_sI, gN_sL, gN_sQ, gN_sJ, E_aald_0, E_cV_a, E_cV_b, E_c_0, E_getR_0, E_jmp_0, E_jz_0, E_kk, E_ldI_a, E_ldI_b, E_ldR_a, E_ldR_b, E_rI_0, aL_91, am_cc, am_pop, am_rt, cC_10, cC_11, cC_6, cC_91, rQ_91, rR_1200, rR_701, sN_91, kX11_ahead, ↓s_hasWord, bI_z, not_true_eq_false, not_false_eq_true, hw1, h1, h2, h3, h4, hq.1, hj, g1, g2, g3, g4, gq.1, hi, ↓s_goesAhead i j σ _ hi hj, e]
        rw [eX12_ahead 60]
        rw [h.key hi, h.key hj] at e
        simp only [am_run_s, bt, lf, am_in, am_ar, am_fit, am_ld, am_ct, Nat.reduceLT, Nat.reduceEqDiff, reduceIte, Nat.reduceAdd, Nat.reduceLeDiff, Nat.reduceSub, Bool.false_eq_true, if_true, if_false, ite_true, ite_false, List.length_cons, List.length_nil, Nat.zero_add, Nat.add_zero, and_true, true_and, true_or, or_true, and_self, Nat.le_refl, Nat.lt_irrefl, gI_sI, gL_sL, gQ_sQ, gI_sJ, gI_sL, gI_sQ, gL_sI, gL_sQ, gL_sJ, gQ_sI, gQ_sL, gQ_sJ, gN_sI, gN_sL, gN_sQ, gN_sJ, E_cV_a, E_cV_b, E_c_0, E_jmp_0, E_jz_0, E_kk, E_ldI_a, E_ldI_b, E_ldR_a, E_ldR_b, E_rI_0, am_cc, am_pop, am_rt, cC_12, kX12_ahead, ↓s_isWord, bI_z, not_true_eq_false, not_false_eq_true, hw2, h1, h2, h3, h4, gN_sI, gI_sI, Nat.reduceEqDiff, reduceIte, g1, g2, ↓s_isAhead i j (show i < 24 by omega) (show j < 24 by omega), e]
        exact ⟨⟨_, rfl, rfl⟩, h.up⟩
      · simp only [am_run_s, bt, lf, am_in, am_ar, am_fit, am_ld, am_ct, Nat.reduceLT, Nat.reduceEqDiff, reduceIte, Nat.reduceAdd, Nat.reduceLeDiff, Nat.reduceSub, Bool.false_eq_true, if_true, if_false, ite_true, ite_false, List.length_cons, List.length_nil, Nat.zero_add, Nat.add_zero, and_true, true_and, true_or, or_true, and_self, Nat.le_refl, Nat.lt_irrefl, gI_sI, gL_sL, gQ_sQ, gI_sJ, gI_sL, gI_sQ, gL_sI, gL_sQ, gL_sJ, gQ_sI, gQ_sL, gQ_sJ, gN_sI, gN_sL, gN_sQ, gN_sJ, E_aald_0, E_cV_a, E_cV_b, E_c_0, E_getR_0, E_jmp_0, E_jz_0, E_kk, E_ldI_a, E_ldI_b, E_ldR_a, E_ldR_b, E_rI_0, aL_91, am_cc, am_pop, am_rt, cC_10, cC_11, cC_6, cC_91, rQ_91, rR_1200, rR_701, sN_91, kX11_ahead, ↓s_hasWord, bI_z, not_true_eq_false, not_false_eq_true, hw1, h1, h2, h3, h4, hq.1, hj, g1, g2, g3, g4, gq.1, hi, ↓s_goesAhead i j σ _ hi hj, e]
        rw [eX12_ahead 60]
        rw [h.key hi, h.key hj] at e
        simp only [am_run_s, bt, lf, am_in, am_ar, am_fit, am_ld, am_ct, Nat.reduceLT, Nat.reduceEqDiff, reduceIte, Nat.reduceAdd, Nat.reduceLeDiff, Nat.reduceSub, Bool.false_eq_true, if_true, if_false, ite_true, ite_false, List.length_cons, List.length_nil, Nat.zero_add, Nat.add_zero, and_true, true_and, true_or, or_true, and_self, Nat.le_refl, Nat.lt_irrefl, gI_sI, gL_sL, gQ_sQ, gI_sJ, gI_sL, gI_sQ, gL_sI, gL_sQ, gL_sJ, gQ_sI, gQ_sL, gQ_sJ, gN_sI, gN_sL, gN_sQ, gN_sJ, E_cV_a, E_cV_b, E_c_0, E_jmp_0, E_jz_0, E_kk, E_ldI_a, E_ldI_b, E_ldR_a, E_ldR_b, E_rI_0, am_cc, am_pop, am_rt, cC_12, kX12_ahead, ↓s_isWord, bI_z, not_true_eq_false, not_false_eq_true, hw2, h1, h2, h3, h4, gN_sI, gI_sI, Nat.reduceEqDiff, reduceIte, g1, g2, ↓s_isAhead i j (show i < 24 by omega) (show j < 24 by omega), e]
        exact ⟨⟨_, rfl, rfl⟩, h.up⟩
    · simp only [am_run_s, bt, lf, am_in, am_ar, am_fit, am_ld, am_ct, Nat.reduceLT, Nat.reduceEqDiff, reduceIte, Nat.reduceAdd, Nat.reduceLeDiff, Nat.reduceSub, Bool.false_eq_true, if_true, if_false, ite_true, ite_false, List.length_cons, List.length_nil, Nat.zero_add, Nat.add_zero, and_true, true_and, true_or, or_true, and_self, Nat.le_refl, Nat.lt_irrefl, gI_sI, gL_sL, gQ_sQ, gI_sJ, gI_sL, gI_sQ, gL_sI, gL_sQ, gL_sJ, gQ_sI, gQ_sL, gQ_sJ, gN_sI, gN_sL, gN_sQ, gN_sJ, E_aald_0, E_cV_a, E_cV_b, E_c_0, E_getR_0, E_jmp_0, E_jz_0, E_kk, E_ldI_a, E_ldI_b, E_ldR_a, E_ldR_b, E_rI_0, aL_91, am_cc, am_pop, am_rt, cC_10, cC_11, cC_6, cC_91, rQ_91, rR_1200, rR_701, sN_91, kX11_ahead, ↓s_hasWord, bI_z, not_true_eq_false, not_false_eq_true, hw1, h1, h2, hy, ↓s_refuse3]
      rw [eX12_ahead 60]
      simp only [am_run_s, bt, lf, am_in, am_ar, am_fit, am_ld, am_ct, Nat.reduceLT, Nat.reduceEqDiff, reduceIte, Nat.reduceAdd, Nat.reduceLeDiff, Nat.reduceSub, Bool.false_eq_true, if_true, if_false, ite_true, ite_false, List.length_cons, List.length_nil, Nat.zero_add, Nat.add_zero, and_true, true_and, true_or, or_true, and_self, Nat.le_refl, Nat.lt_irrefl, gI_sI, gL_sL, gQ_sQ, gI_sJ, gI_sL, gI_sQ, gL_sI, gL_sQ, gL_sJ, gQ_sI, gQ_sL, gQ_sJ, gN_sI, gN_sL, gN_sQ, gN_sJ, E_cV_a, E_cV_b, E_c_0, E_jmp_0, E_jz_0, E_kk, E_ldI_a, E_ldI_b, E_ldR_a, E_ldR_b, E_rI_0, am_cc, am_pop, am_rt, cC_12, kX12_ahead, ↓s_isWord, bI_z, not_true_eq_false, not_false_eq_true, hw2, h1, h2, gN_sI, gI_sI, Nat.reduceEqDiff, reduceIte, hy, ↓s_no3]
      exact ⟨⟨_, rfl, rfl⟩, h.refuse⟩
  · simp only [am_run_s, bt, lf, am_in, am_ar, am_fit, am_ld, am_ct, Nat.reduceLT, Nat.reduceEqDiff, reduceIte, Nat.reduceAdd, Nat.reduceLeDiff, Nat.reduceSub, Bool.false_eq_true, if_true, if_false, ite_true, ite_false, List.length_cons, List.length_nil, Nat.zero_add, Nat.add_zero, and_true, true_and, true_or, or_true, and_self, Nat.le_refl, Nat.lt_irrefl, gI_sI, gL_sL, gQ_sQ, gI_sJ, gI_sL, gI_sQ, gL_sI, gL_sQ, gL_sJ, gQ_sI, gQ_sL, gQ_sJ, gN_sI, gN_sL, gN_sQ, gN_sJ, E_aald_0, E_cV_a, E_cV_b, E_c_0, E_getR_0, E_jmp_0, E_jz_0, E_kk, E_ldI_a, E_ldI_b, E_ldR_a, E_ldR_b, E_rI_0, aL_91, am_cc, am_pop, am_rt, cC_10, cC_11, cC_6, cC_91, rQ_91, rR_1200, rR_701, sN_91, kX11_ahead, ↓s_hasWord, bI_z, not_true_eq_false, not_false_eq_true, hw1, hx, ↓s_refuse3]
    rw [eX12_ahead 60]
    simp only [am_run_s, bt, lf, am_in, am_ar, am_fit, am_ld, am_ct, Nat.reduceLT, Nat.reduceEqDiff, reduceIte, Nat.reduceAdd, Nat.reduceLeDiff, Nat.reduceSub, Bool.false_eq_true, if_true, if_false, ite_true, ite_false, List.length_cons, List.length_nil, Nat.zero_add, Nat.add_zero, and_true, true_and, true_or, or_true, and_self, Nat.le_refl, Nat.lt_irrefl, gI_sI, gL_sL, gQ_sQ, gI_sJ, gI_sL, gI_sQ, gL_sI, gL_sQ, gL_sJ, gQ_sI, gQ_sL, gQ_sJ, gN_sI, gN_sL, gN_sQ, gN_sJ, E_cV_a, E_cV_b, E_c_0, E_jmp_0, E_jz_0, E_kk, E_ldI_a, E_ldI_b, E_ldR_a, E_ldR_b, E_rI_0, am_cc, am_pop, am_rt, cC_12, kX12_ahead, ↓s_isWord, bI_z, not_true_eq_false, not_false_eq_true, hw2, gN_sI, gI_sI, Nat.reduceEqDiff, reduceIte, hx, ↓s_no3]
    exact ⟨⟨_, rfl, rfl⟩, h.refuse⟩

theorem ix' (x : Int32) {n : Nat} (hn : n ≤ 5000) : (∃ j : Nat, j < n ∧ x = nI j) ∨ (¬ (¬ x < 0 ∧ x < nI n) ∧ ¬ (¬ x < 0 ∧ ¬ nI n - 1 < x)) := by
  have e : ∀ z : Int32, z = nI n - 1 → z.toInt = (n : Int) - 1 := by
    intro z hz
    have e1 : (1 : Int32) = nI 1 := by decide
    rw [hz, e1, pk_sub_toInt (by omega) (by omega)]; omega
  rcases pk_ix x (n := n) (by omega) with h | h | h
  · exact Or.inr ⟨fun z => z.1 h, fun z => z.1 h⟩
  · refine Or.inr ⟨fun z => (am_nlt h) z.2, fun z => z.2 ?_⟩
    rw [Int32.le_iff_toInt_le, nI_toInt (by omega)] at h
    rw [Int32.lt_iff_toInt_lt, e _ rfl]; omega
  · exact Or.inl h
theorem nI_l1 {j n : Nat} (h : j < n) (hn : n < 1073741824) : (nI n - 1 < nI j) = False := by
  apply eq_false
  have e1 : (1 : Int32) = nI 1 := by decide
  rw [Int32.lt_iff_toInt_lt, nI_toInt (by omega), e1, pk_sub_toInt (by omega) (by omega)]; omega
theorem api_bend (x : Int32) : apiI 104 164 [.inl x] := by
  intro k σ hk h
  obtain ⟨n, hn, hw1, hw2, hb⟩ := h.2.2.2.1
  rw [eX11_bend 60]
  rcases ix' x (n := n) (by omega) with ⟨j, hj, rfl⟩ | ⟨hx, hx'⟩
  · have h1 := nI_f (j := j) (by omega)
    have h2 := nI_t hj (by omega)
    have h2' := nI_l1 hj (by omega)
    have h3 : vp_in (nI j) 2000 := vp_in_nI (by omega) (by omega)
    have h4 : (nI j).toNatClampNeg = j := nI_clamp (by omega)
    simp only [am_run_s, bt, lf, am_in, am_ar, am_fit, am_ld, am_ct, Nat.reduceLT, Nat.reduceEqDiff, reduceIte, Nat.reduceAdd, Nat.reduceLeDiff, Nat.reduceSub, Bool.false_eq_true, if_true, if_false, ite_true, ite_false, List.length_cons, List.length_nil, Nat.zero_add, Nat.add_zero, and_true, true_and, true_or, or_true, and_self, Nat.le_refl, Nat.lt_irrefl, gI_sI, gL_sL, gQ_sQ, gI_sJ, gI_sL, gI_sQ, gL_sI, gL_sQ, gL_sJ, gQ_sI, gQ_sL, gQ_sJ, gN_sI, gN_sL, gN_sQ, gN_sJ, E_b2_0, E_cV_a, E_cV_b, E_c_0, E_getR_0, E_iald_0, E_iast_0, E_jz_0, E_kk, E_ldI_a, E_ldI_b, E_ldR_a, E_ldR_b, E_rI_0, aL_31, am_cc, am_pop, am_rt, cC_11, cC_31, cC_8, rR_1202, rR_900, kX11_bend, ↓s_hasBit, bI_z, not_true_eq_false, not_false_eq_true, hw1, h1, h2, h3, h4]
    rw [eX12_bend 60]
    simp only [am_run_s, bt, lf, am_in, am_ar, am_fit, am_ld, am_ct, Nat.reduceLT, Nat.reduceEqDiff, reduceIte, Nat.reduceAdd, Nat.reduceLeDiff, Nat.reduceSub, Bool.false_eq_true, if_true, if_false, ite_true, ite_false, List.length_cons, List.length_nil, Nat.zero_add, Nat.add_zero, and_true, true_and, true_or, or_true, and_self, Nat.le_refl, Nat.lt_irrefl, gI_sI, gL_sL, gQ_sQ, gI_sJ, gI_sL, gI_sQ, gL_sI, gL_sQ, gL_sJ, gQ_sI, gQ_sL, gQ_sJ, gN_sI, gN_sL, gN_sQ, gN_sJ, E_b2_0, E_cS_a, E_cS_b, E_cV_a, E_cV_b, E_c_0, E_getI_0, E_getR_0, E_i2l_0, E_iald_0, E_iast_0, E_jz_0, E_kk, E_ldI_a, E_ldI_b, E_ldR_a, E_ldR_b, E_rI_0, aL_53, am_cc, am_pop, am_rt, cC_12, cC_53, rR_1329, kX12_bend, ↓s_isIn0, bI_z, not_true_eq_false, not_false_eq_true, hw2, h1, h2', h3, h4, gN_sI, gI_sI, Nat.reduceEqDiff, reduceIte]
    refine ⟨⟨_, rfl, by rw [(hb j hj).1]⟩, h.1, h.2.1, h.2.2.1.up, ⟨?_, h.2.2.2.2.1, h.2.2.2.2.2.1, h.2.2.2.2.2.2.1, h.2.2.2.2.2.2.2.1, h.2.2.2.2.2.2.2.2⟩⟩
    refine ⟨n, hn, hw1, hw2, fun i hi => ?_⟩
    simp only [gN_sI, gI_sI, Nat.reduceEqDiff, reduceIte]
    by_cases e : i = j
    · subst e
      simp only [reduceIte, (hb i hi).1]
      refine ⟨trivial, ?_⟩
      rcases (hb i hi).2 with q | q <;> rw [q]
      · exact Or.inr (by decide)
      · exact Or.inl (by decide)
    · simp only [e, reduceIte]
      exact hb i hi
  · simp only [am_run_s, bt, lf, am_in, am_ar, am_fit, am_ld, am_ct, Nat.reduceLT, Nat.reduceEqDiff, reduceIte, Nat.reduceAdd, Nat.reduceLeDiff, Nat.reduceSub, Bool.false_eq_true, if_true, if_false, ite_true, ite_false, List.length_cons, List.length_nil, Nat.zero_add, Nat.add_zero, and_true, true_and, true_or, or_true, and_self, Nat.le_refl, Nat.lt_irrefl, gI_sI, gL_sL, gQ_sQ, gI_sJ, gI_sL, gI_sQ, gL_sI, gL_sQ, gL_sJ, gQ_sI, gQ_sL, gQ_sJ, gN_sI, gN_sL, gN_sQ, gN_sJ, E_b2_0, E_cV_a, E_cV_b, E_c_0, E_getR_0, E_iald_0, E_iast_0, E_jz_0, E_kk, E_ldI_a, E_ldI_b, E_ldR_a, E_ldR_b, E_rI_0, aL_31, am_cc, am_pop, am_rt, cC_11, cC_31, cC_8, rR_1202, rR_900, kX11_bend, ↓s_hasBit, bI_z, not_true_eq_false, not_false_eq_true, hw1, hx, ↓s_refuse3]
    rw [eX12_bend 60]
    simp only [am_run_s, bt, lf, am_in, am_ar, am_fit, am_ld, am_ct, Nat.reduceLT, Nat.reduceEqDiff, reduceIte, Nat.reduceAdd, Nat.reduceLeDiff, Nat.reduceSub, Bool.false_eq_true, if_true, if_false, ite_true, ite_false, List.length_cons, List.length_nil, Nat.zero_add, Nat.add_zero, and_true, true_and, true_or, or_true, and_self, Nat.le_refl, Nat.lt_irrefl, gI_sI, gL_sL, gQ_sQ, gI_sJ, gI_sL, gI_sQ, gL_sI, gL_sQ, gL_sJ, gQ_sI, gQ_sL, gQ_sJ, gN_sI, gN_sL, gN_sQ, gN_sJ, E_b2_0, E_cS_a, E_cS_b, E_cV_a, E_cV_b, E_c_0, E_getI_0, E_getR_0, E_i2l_0, E_iald_0, E_iast_0, E_jz_0, E_kk, E_ldI_a, E_ldI_b, E_ldR_a, E_ldR_b, E_rI_0, aL_53, am_cc, am_pop, am_rt, cC_12, cC_53, rR_1329, kX12_bend, ↓s_isIn0, bI_z, not_true_eq_false, not_false_eq_true, hw2, gN_sI, gI_sI, Nat.reduceEqDiff, reduceIte, hx', ↓s_no3]
    exact ⟨⟨_, rfl, rfl⟩, h.refuse⟩

