/-! ===== calls on a word ===== -/
theorem v_ord.zero {x m : HS} (h1 : gI x 106 0 = 0) (h2 : gI m 1361 0 = 0) : v_ord x m :=
  ⟨by rw [h1, h2], Or.inl h2, fun h => by rw [h2] at h; exact absurd h (by decide)⟩
theorem v_ord.b {x m : HS} (h : v_ord x m) : gI m 1361 0 = 0 ∨ gI m 1361 0 = 1 := h.2.1
theorem i01 : ¬ (1 : Int32) = 0 := by decide
theorem v_due.set {x m : HS} {j : Nat} {d : Int32} (h : v_due x m) (hd : ¬ d < 1 ∧ ¬ 1000000 < d) {x' m' : HS} (hn : gN x' 10 = gN x 10) (h1 : ∀ i, gI x' 1108 i = if i = j then d else gI x 1108 i) (h2 : ∀ i, gI m' 44 i = if i = j then d else gI m 44 i) : v_due x' m' := by
  intro i hi
  rw [hn] at hi
  rw [h1, h2]
  by_cases e : i = j
  · rw [if_pos e, if_pos e]
    refine ⟨rfl, ?_⟩
    obtain ⟨q1, q2⟩ := hd
    have e1 : (1 : Int32).toInt = 1 := by decide
    have e2 : (1000000 : Int32).toInt = 1000000 := by decide
    rw [Int32.lt_iff_toInt_lt, e1] at q1
    rw [Int32.lt_iff_toInt_lt, e2] at q2
    refine ⟨d.toInt.toNat, ?_, by omega, by omega⟩
    apply Int32.toInt_inj.mp
    rw [nI_toInt (by omega)]; omega
  · rw [if_neg e, if_neg e]
    exact h i hi
theorem api_due (x d : Int32) : apiI 92 146 [.inl x, .inl d] := by
  intro k σ hk h
  obtain ⟨hw1, hw2, hw⟩ := h.wc
  rw [eX11_due 60]
  rcases ix x (n := gN σ 10) (by omega) with ⟨j, hj, rfl⟩ | hx
  · have h1 := nI_f (j := j) (by omega)
    have h2 := nI_t hj (by omega)
    have h3 : vp_in (nI j) 24 := vp_in_nI (by omega) (by omega)
    have h4 : (nI j).toNatClampNeg = j := nI_clamp (by omega)
    have hq := h.2.1.1 j hj
    have hdq := h.2.1.2.2.2.2.1 j hj
    have hod := h.2.2.2.2.2.2.1
    by_cases hd : ¬ d < 1 ∧ ¬ 1000000 < d
    · by_cases e : d = gI σ 1108 j
      · simp only [am_run_s, bt, lf, am_in, am_ar, am_fit, am_ld, am_ct, Nat.reduceLT, Nat.reduceEqDiff, reduceIte, Nat.reduceAdd, Nat.reduceLeDiff, Nat.reduceSub, Bool.false_eq_true, if_true, if_false, ite_true, ite_false, List.length_cons, List.length_nil, Nat.zero_add, Nat.add_zero, and_true, true_and, true_or, or_true, and_self, Nat.le_refl, Nat.lt_irrefl, gI_sI, gL_sL, gQ_sQ, gI_sJ, gI_sL, gI_sQ, gL_sI, gL_sQ, gL_sJ, gQ_sI, gQ_sL, gQ_sJ, gN_sI, gN_sL, gN_sQ, gN_sJ, E_aald_0, E_cS_a, E_cS_b, E_cV_a, E_cV_b, E_c_0, E_getI_0, E_getR_0, E_je_0, E_jz_0, E_kk, E_ldI_a, E_ldI_b, E_ldR_a, E_ldR_b, E_putI_0, E_rI_0, E_stI_0, E_stR_0, aL_91, am_cc, am_nl, am_ok, am_pop, am_rt, am_set, cC_0, cC_10, cC_11, cC_6, cC_91, rQ_91, rR_1200, rR_1205, rR_701, sN_91, kX11_due, ↓s_isWithin, ↓s_hasWord, bI_z, not_true_eq_false, not_false_eq_true, hw1, h1, h2, h3, h4, hq.1, hj, hd, ↓s_forgetOrder, if_pos e]
        rw [eX12_due 60]
        have e2 : gI σ 44 j = d := by rw [e, hdq.1]
        have hdd : v_due (sI (sI σ 44 j d) 1361 0 (gI σ 1361 0)) (sI (sI σ 44 j d) 1361 0 (gI σ 1361 0)) := by
          refine v_due.set (j := j) (d := d) h.2.1.2.2.2.2.1 hd rfl (fun i => ?_) (fun i => rfl)
          by_cases ei : i = j
          · rw [if_pos ei, e, ei]; rfl
          · rw [if_neg ei]; rfl
        have hoo : v_ord (sI (sI σ 44 j d) 1361 0 (gI σ 1361 0)) (sI (sI σ 44 j d) 1361 0 (gI σ 1361 0)) := hod
        rcases hod.b with ho | ho
        · simp only [am_run_s, bt, lf, am_in, am_ar, am_fit, am_ld, am_ct, Nat.reduceLT, Nat.reduceEqDiff, reduceIte, Nat.reduceAdd, Nat.reduceLeDiff, Nat.reduceSub, Bool.false_eq_true, if_true, if_false, ite_true, ite_false, List.length_cons, List.length_nil, Nat.zero_add, Nat.add_zero, and_true, true_and, true_or, or_true, and_self, Nat.le_refl, Nat.lt_irrefl, gI_sI, gL_sL, gQ_sQ, gI_sJ, gI_sL, gI_sQ, gL_sI, gL_sQ, gL_sJ, gQ_sI, gQ_sL, gQ_sJ, gN_sI, gN_sL, gN_sQ, gN_sJ, E_cS_a, E_cS_b, E_cV_a, E_cV_b, E_c_0, E_getI_0, E_getR_0, E_i2l_0, E_iald_0, E_iast_0, E_je_0, E_jmp_0, E_jz_0, E_kk, E_ldI_a, E_ldI_b, E_ldR_a, E_ldR_b, E_putZ_0, E_rI_0, E_stI_0, aL_44, am_cc, am_nl, am_ok, am_pop, am_rt, am_set, cC_12, cC_44, rR_1311, kX12_due, ↓s_isIn1_1000000, ↓s_isWord, bI_z, not_true_eq_false, not_false_eq_true, hw2, h1, h2, h3, h4, gN_sI, gI_sI, Nat.reduceEqDiff, reduceIte, hd, am_b0, am_b1, ho]
          rw [ho] at hdd hoo
          exact ⟨⟨_, rfl, by rw [hdq.1]⟩, h.1, ⟨h.2.1.1, h.2.1.2.1, h.2.1.2.2.1, h.2.1.2.2.2.1, hdd, h.2.1.2.2.2.2.2.1, h.2.1.2.2.2.2.2.2⟩, h.2.2.1.up, ⟨h.2.2.2.1, h.2.2.2.2.1, h.2.2.2.2.2.1, hoo, h.2.2.2.2.2.2.2.1, h.2.2.2.2.2.2.2.2⟩⟩
        · simp only [am_run_s, bt, lf, am_in, am_ar, am_fit, am_ld, am_ct, Nat.reduceLT, Nat.reduceEqDiff, reduceIte, Nat.reduceAdd, Nat.reduceLeDiff, Nat.reduceSub, Bool.false_eq_true, if_true, if_false, ite_true, ite_false, List.length_cons, List.length_nil, Nat.zero_add, Nat.add_zero, and_true, true_and, true_or, or_true, and_self, Nat.le_refl, Nat.lt_irrefl, gI_sI, gL_sL, gQ_sQ, gI_sJ, gI_sL, gI_sQ, gL_sI, gL_sQ, gL_sJ, gQ_sI, gQ_sL, gQ_sJ, gN_sI, gN_sL, gN_sQ, gN_sJ, E_cS_a, E_cS_b, E_cV_a, E_cV_b, E_c_0, E_getI_0, E_getR_0, E_i2l_0, E_iald_0, E_iast_0, E_je_0, E_jmp_0, E_jz_0, E_kk, E_ldI_a, E_ldI_b, E_ldR_a, E_ldR_b, E_putZ_0, E_rI_0, E_stI_0, aL_44, am_cc, am_nl, am_ok, am_pop, am_rt, am_set, cC_12, cC_44, rR_1311, kX12_due, ↓s_isIn1_1000000, ↓s_isWord, bI_z, not_true_eq_false, not_false_eq_true, hw2, h1, h2, h3, h4, gN_sI, gI_sI, Nat.reduceEqDiff, reduceIte, hd, am_b0, am_b1, ho, i01, e2]
          rw [ho] at hdd hoo
          exact ⟨⟨_, rfl, by rw [← e]⟩, h.1, ⟨h.2.1.1, h.2.1.2.1, h.2.1.2.2.1, h.2.1.2.2.2.1, hdd, h.2.1.2.2.2.2.2.1, h.2.1.2.2.2.2.2.2⟩, h.2.2.1.up, ⟨h.2.2.2.1, h.2.2.2.2.1, h.2.2.2.2.2.1, hoo, h.2.2.2.2.2.2.2.1, h.2.2.2.2.2.2.2.2⟩⟩
      · simp only [am_run_s, bt, lf, am_in, am_ar, am_fit, am_ld, am_ct, Nat.reduceLT, Nat.reduceEqDiff, reduceIte, Nat.reduceAdd, Nat.reduceLeDiff, Nat.reduceSub, Bool.false_eq_true, if_true, if_false, ite_true, ite_false, List.length_cons, List.length_nil, Nat.zero_add, Nat.add_zero, and_true, true_and, true_or, or_true, and_self, Nat.le_refl, Nat.lt_irrefl, gI_sI, gL_sL, gQ_sQ, gI_sJ, gI_sL, gI_sQ, gL_sI, gL_sQ, gL_sJ, gQ_sI, gQ_sL, gQ_sJ, gN_sI, gN_sL, gN_sQ, gN_sJ, E_aald_0, E_cS_a, E_cS_b, E_cV_a, E_cV_b, E_c_0, E_getI_0, E_getR_0, E_je_0, E_jz_0, E_kk, E_ldI_a, E_ldI_b, E_ldR_a, E_ldR_b, E_putI_0, E_rI_0, E_stI_0, E_stR_0, aL_91, am_cc, am_nl, am_ok, am_pop, am_rt, am_set, cC_0, cC_10, cC_11, cC_6, cC_91, rQ_91, rR_1200, rR_1205, rR_701, sN_91, kX11_due, ↓s_isWithin, ↓s_hasWord, bI_z, not_true_eq_false, not_false_eq_true, hw1, h1, h2, h3, h4, hq.1, hj, hd, ↓s_forgetOrder, if_neg e]
        rw [eX12_due 60]
        have e2 : ¬ gI σ 44 j = d := fun z => e (by rw [hdq.1, z])
        have hdd : v_due (sI (sI (sI (sI σ 1108 j d) 106 0 0) 44 j d) 1361 0 0) (sI (sI (sI (sI σ 1108 j d) 106 0 0) 44 j d) 1361 0 0) := v_due.set (j := j) (d := d) h.2.1.2.2.2.2.1 hd rfl (fun i => rfl) (fun i => rfl)
        rcases hod.b with ho | ho
        · simp only [am_run_s, bt, lf, am_in, am_ar, am_fit, am_ld, am_ct, Nat.reduceLT, Nat.reduceEqDiff, reduceIte, Nat.reduceAdd, Nat.reduceLeDiff, Nat.reduceSub, Bool.false_eq_true, if_true, if_false, ite_true, ite_false, List.length_cons, List.length_nil, Nat.zero_add, Nat.add_zero, and_true, true_and, true_or, or_true, and_self, Nat.le_refl, Nat.lt_irrefl, gI_sI, gL_sL, gQ_sQ, gI_sJ, gI_sL, gI_sQ, gL_sI, gL_sQ, gL_sJ, gQ_sI, gQ_sL, gQ_sJ, gN_sI, gN_sL, gN_sQ, gN_sJ, E_cS_a, E_cS_b, E_cV_a, E_cV_b, E_c_0, E_getI_0, E_getR_0, E_i2l_0, E_iald_0, E_iast_0, E_je_0, E_jmp_0, E_jz_0, E_kk, E_ldI_a, E_ldI_b, E_ldR_a, E_ldR_b, E_putZ_0, E_rI_0, E_stI_0, aL_44, am_cc, am_nl, am_ok, am_pop, am_rt, am_set, cC_12, cC_44, rR_1311, kX12_due, ↓s_isIn1_1000000, ↓s_isWord, bI_z, not_true_eq_false, not_false_eq_true, hw2, h1, h2, h3, h4, gN_sI, gI_sI, Nat.reduceEqDiff, reduceIte, hd, am_b0, am_b1, ho]
          exact ⟨⟨_, rfl, by rw [hdq.1]⟩, h.1, ⟨h.2.1.1, h.2.1.2.1, h.2.1.2.2.1, h.2.1.2.2.2.1, hdd, h.2.1.2.2.2.2.2.1, h.2.1.2.2.2.2.2.2⟩, h.2.2.1.up, ⟨h.2.2.2.1, h.2.2.2.2.1, h.2.2.2.2.2.1, v_ord.zero rfl rfl, h.2.2.2.2.2.2.2.1, h.2.2.2.2.2.2.2.2⟩⟩
        · simp only [am_run_s, bt, lf, am_in, am_ar, am_fit, am_ld, am_ct, Nat.reduceLT, Nat.reduceEqDiff, reduceIte, Nat.reduceAdd, Nat.reduceLeDiff, Nat.reduceSub, Bool.false_eq_true, if_true, if_false, ite_true, ite_false, List.length_cons, List.length_nil, Nat.zero_add, Nat.add_zero, and_true, true_and, true_or, or_true, and_self, Nat.le_refl, Nat.lt_irrefl, gI_sI, gL_sL, gQ_sQ, gI_sJ, gI_sL, gI_sQ, gL_sI, gL_sQ, gL_sJ, gQ_sI, gQ_sL, gQ_sJ, gN_sI, gN_sL, gN_sQ, gN_sJ, E_cS_a, E_cS_b, E_cV_a, E_cV_b, E_c_0, E_getI_0, E_getR_0, E_i2l_0, E_iald_0, E_iast_0, E_je_0, E_jmp_0, E_jz_0, E_kk, E_ldI_a, E_ldI_b, E_ldR_a, E_ldR_b, E_putZ_0, E_rI_0, E_stI_0, aL_44, am_cc, am_nl, am_ok, am_pop, am_rt, am_set, cC_12, cC_44, rR_1311, kX12_due, ↓s_isIn1_1000000, ↓s_isWord, bI_z, not_true_eq_false, not_false_eq_true, hw2, h1, h2, h3, h4, gN_sI, gI_sI, Nat.reduceEqDiff, reduceIte, hd, am_b0, am_b1, ho, i01, e2]
          exact ⟨⟨_, rfl, by rw [hdq.1]⟩, h.1, ⟨h.2.1.1, h.2.1.2.1, h.2.1.2.2.1, h.2.1.2.2.2.1, hdd, h.2.1.2.2.2.2.2.1, h.2.1.2.2.2.2.2.2⟩, h.2.2.1.up, ⟨h.2.2.2.1, h.2.2.2.2.1, h.2.2.2.2.2.1, v_ord.zero rfl rfl, h.2.2.2.2.2.2.2.1, h.2.2.2.2.2.2.2.2⟩⟩
    · simp only [am_run_s, bt, lf, am_in, am_ar, am_fit, am_ld, am_ct, Nat.reduceLT, Nat.reduceEqDiff, reduceIte, Nat.reduceAdd, Nat.reduceLeDiff, Nat.reduceSub, Bool.false_eq_true, if_true, if_false, ite_true, ite_false, List.length_cons, List.length_nil, Nat.zero_add, Nat.add_zero, and_true, true_and, true_or, or_true, and_self, Nat.le_refl, Nat.lt_irrefl, gI_sI, gL_sL, gQ_sQ, gI_sJ, gI_sL, gI_sQ, gL_sI, gL_sQ, gL_sJ, gQ_sI, gQ_sL, gQ_sJ, gN_sI, gN_sL, gN_sQ, gN_sJ, E_aald_0, E_cS_a, E_cS_b, E_cV_a, E_cV_b, E_c_0, E_getI_0, E_getR_0, E_je_0, E_jz_0, E_kk, E_ldI_a, E_ldI_b, E_ldR_a, E_ldR_b, E_putI_0, E_rI_0, E_stI_0, E_stR_0, aL_91, am_cc, am_nl, am_ok, am_pop, am_rt, am_set, cC_0, cC_10, cC_11, cC_6, cC_91, rQ_91, rR_1200, rR_1205, rR_701, sN_91, kX11_due, ↓s_isWithin, ↓s_hasWord, bI_z, not_true_eq_false, not_false_eq_true, hw1, h1, h2, h3, h4, hq.1, hj, hd, ↓s_refuse7]
      rw [eX12_due 60]
      simp only [am_run_s, bt, lf, am_in, am_ar, am_fit, am_ld, am_ct, Nat.reduceLT, Nat.reduceEqDiff, reduceIte, Nat.reduceAdd, Nat.reduceLeDiff, Nat.reduceSub, Bool.false_eq_true, if_true, if_false, ite_true, ite_false, List.length_cons, List.length_nil, Nat.zero_add, Nat.add_zero, and_true, true_and, true_or, or_true, and_self, Nat.le_refl, Nat.lt_irrefl, gI_sI, gL_sL, gQ_sQ, gI_sJ, gI_sL, gI_sQ, gL_sI, gL_sQ, gL_sJ, gQ_sI, gQ_sL, gQ_sJ, gN_sI, gN_sL, gN_sQ, gN_sJ, E_cS_a, E_cS_b, E_cV_a, E_cV_b, E_c_0, E_getI_0, E_getR_0, E_i2l_0, E_iald_0, E_iast_0, E_je_0, E_jmp_0, E_jz_0, E_kk, E_ldI_a, E_ldI_b, E_ldR_a, E_ldR_b, E_putZ_0, E_rI_0, E_stI_0, aL_44, am_cc, am_nl, am_ok, am_pop, am_rt, am_set, cC_12, cC_44, rR_1311, kX12_due, ↓s_isIn1_1000000, ↓s_isWord, bI_z, not_true_eq_false, not_false_eq_true, hw2, h1, h2, h3, h4, gN_sI, gI_sI, Nat.reduceEqDiff, reduceIte, hd, ↓s_no7]
      exact ⟨⟨_, rfl, rfl⟩, h.refuse⟩
  · simp only [am_run_s, bt, lf, am_in, am_ar, am_fit, am_ld, am_ct, Nat.reduceLT, Nat.reduceEqDiff, reduceIte, Nat.reduceAdd, Nat.reduceLeDiff, Nat.reduceSub, Bool.false_eq_true, if_true, if_false, ite_true, ite_false, List.length_cons, List.length_nil, Nat.zero_add, Nat.add_zero, and_true, true_and, true_or, or_true, and_self, Nat.le_refl, Nat.lt_irrefl, gI_sI, gL_sL, gQ_sQ, gI_sJ, gI_sL, gI_sQ, gL_sI, gL_sQ, gL_sJ, gQ_sI, gQ_sL, gQ_sJ, gN_sI, gN_sL, gN_sQ, gN_sJ, E_aald_0, E_cS_a, E_cS_b, E_cV_a, E_cV_b, E_c_0, E_getI_0, E_getR_0, E_je_0, E_jz_0, E_kk, E_ldI_a, E_ldI_b, E_ldR_a, E_ldR_b, E_putI_0, E_rI_0, E_stI_0, E_stR_0, aL_91, am_cc, am_nl, am_ok, am_pop, am_rt, am_set, cC_0, cC_10, cC_11, cC_6, cC_91, rQ_91, rR_1200, rR_1205, rR_701, sN_91, kX11_due, ↓s_hasWord, bI_z, not_true_eq_false, not_false_eq_true, hw1, hx, ↓s_refuse3]
    rw [eX12_due 60]
    simp only [am_run_s, bt, lf, am_in, am_ar, am_fit, am_ld, am_ct, Nat.reduceLT, Nat.reduceEqDiff, reduceIte, Nat.reduceAdd, Nat.reduceLeDiff, Nat.reduceSub, Bool.false_eq_true, if_true, if_false, ite_true, ite_false, List.length_cons, List.length_nil, Nat.zero_add, Nat.add_zero, and_true, true_and, true_or, or_true, and_self, Nat.le_refl, Nat.lt_irrefl, gI_sI, gL_sL, gQ_sQ, gI_sJ, gI_sL, gI_sQ, gL_sI, gL_sQ, gL_sJ, gQ_sI, gQ_sL, gQ_sJ, gN_sI, gN_sL, gN_sQ, gN_sJ, E_cS_a, E_cS_b, E_cV_a, E_cV_b, E_c_0, E_getI_0, E_getR_0, E_i2l_0, E_iald_0, E_iast_0, E_je_0, E_jmp_0, E_jz_0, E_kk, E_ldI_a, E_ldI_b, E_ldR_a, E_ldR_b, E_putZ_0, E_rI_0, E_stI_0, aL_44, am_cc, am_nl, am_ok, am_pop, am_rt, am_set, cC_12, cC_44, rR_1311, kX12_due, ↓s_isWord, bI_z, not_true_eq_false, not_false_eq_true, hw2, gN_sI, gI_sI, Nat.reduceEqDiff, reduceIte, hx, ↓s_no3]
    exact ⟨⟨_, rfl, rfl⟩, h.refuse⟩

theorem api_value (x : Int32) (v : Int64) : apiI 93 147 [.inl x, .inr (.inl v)] := by
  intro k σ hk h
  obtain ⟨hw1, hw2, hw⟩ := h.wc
  rw [eX11_value 60]
  rcases ix x (n := gN σ 10) (by omega) with ⟨j, hj, rfl⟩ | hx
  · have h1 := nI_f (j := j) (by omega)
    have h2 := nI_t hj (by omega)
    have h3 : vp_in (nI j) 24 := vp_in_nI (by omega) (by omega)
    have h4 : (nI j).toNatClampNeg = j := nI_clamp (by omega)
    have hq := h.2.1.1 j hj
    have hv := h.2.1.2.2.2.2.2.1
    have hvv : v_val (sL (sL σ 1109 j v) 85 j v) (sL (sL σ 1109 j v) 85 j v) := by
      refine ⟨fun i hi => ?_, fun i hi => ?_⟩
      · rw [gL_sL, if_neg (by decide), gL_sL, if_pos rfl, gL_sL, if_pos rfl]
        by_cases e : i = j
        · rw [if_pos e, if_pos e]
        · rw [if_neg e, if_neg e]; exact hv.1 i hi
      · have hi2 : gN σ 10 ≤ i := hi
        rw [gL_sL, if_pos rfl, if_neg (by omega)]
        exact hv.2 i hi
    by_cases e : gL σ 1109 j = v
    · simp only [am_run_s, bt, lf, am_in, am_ar, am_fit, am_ld, am_ct, Nat.reduceLT, Nat.reduceEqDiff, reduceIte, Nat.reduceAdd, Nat.reduceLeDiff, Nat.reduceSub, Bool.false_eq_true, if_true, if_false, ite_true, ite_false, List.length_cons, List.length_nil, Nat.zero_add, Nat.add_zero, and_true, true_and, true_or, or_true, and_self, Nat.le_refl, Nat.lt_irrefl, gI_sI, gL_sL, gQ_sQ, gI_sJ, gI_sL, gI_sQ, gL_sI, gL_sQ, gL_sJ, gQ_sI, gQ_sL, gQ_sJ, gN_sI, gN_sL, gN_sQ, gN_sJ, E_aald_0, E_cV_a, E_cV_b, E_c_0, E_getL_0, E_getR_0, E_jmp_0, E_jz_0, E_kk, E_lcmp_0, E_ldI_a, E_ldI_b, E_ldL_a, E_ldL_b, E_ldR_a, E_ldR_b, E_putL_0, E_rI_0, E_stI_0, E_stR_0, aL_91, am_cc, am_nl, am_ok, am_pop, am_rt, am_set, cC_10, cC_11, cC_6, cC_91, rQ_91, rR_1200, rR_701, sN_91, kX11_value, ↓s_hasWord, bI_z, not_true_eq_false, not_false_eq_true, hw1, h1, h2, h3, h4, hq.1, hj, lc_zero, e]
      rw [eX12_value 60]
      have e2 : gL σ 85 j = v := by rw [← hv.1 j hj, e]
      simp only [am_run_s, bt, lf, am_in, am_ar, am_fit, am_ld, am_ct, Nat.reduceLT, Nat.reduceEqDiff, reduceIte, Nat.reduceAdd, Nat.reduceLeDiff, Nat.reduceSub, Bool.false_eq_true, if_true, if_false, ite_true, ite_false, List.length_cons, List.length_nil, Nat.zero_add, Nat.add_zero, and_true, true_and, true_or, or_true, and_self, Nat.le_refl, Nat.lt_irrefl, gI_sI, gL_sL, gQ_sQ, gI_sJ, gI_sL, gI_sQ, gL_sI, gL_sQ, gL_sJ, gQ_sI, gQ_sL, gQ_sJ, gN_sI, gN_sL, gN_sQ, gN_sJ, E_cV_a, E_cV_b, E_c_0, E_getR_0, E_jmp_0, E_jz_0, E_kk, E_lald_0, E_last_0, E_lcmp_0, E_ldI_a, E_ldI_b, E_ldL_a, E_ldL_b, E_ldR_a, E_ldR_b, E_rI_0, E_stI_0, aL_85, am_cc, am_nl, am_ok, am_pop, am_rt, am_set, cC_12, cC_85, rR_1312, kX12_value, ↓s_isWord, bI_z, not_true_eq_false, not_false_eq_true, hw2, h1, h2, h3, h4, gN_sI, gI_sI, Nat.reduceEqDiff, reduceIte, lc_zero, e2, gL_sL, am_b0, am_b1]
      exact ⟨⟨_, rfl, rfl⟩, h.1, ⟨h.2.1.1, h.2.1.2.1, h.2.1.2.2.1, h.2.1.2.2.2.1, h.2.1.2.2.2.2.1, hvv, h.2.1.2.2.2.2.2.2⟩, h.2.2.1.up, h.2.2.2⟩
    · simp only [am_run_s, bt, lf, am_in, am_ar, am_fit, am_ld, am_ct, Nat.reduceLT, Nat.reduceEqDiff, reduceIte, Nat.reduceAdd, Nat.reduceLeDiff, Nat.reduceSub, Bool.false_eq_true, if_true, if_false, ite_true, ite_false, List.length_cons, List.length_nil, Nat.zero_add, Nat.add_zero, and_true, true_and, true_or, or_true, and_self, Nat.le_refl, Nat.lt_irrefl, gI_sI, gL_sL, gQ_sQ, gI_sJ, gI_sL, gI_sQ, gL_sI, gL_sQ, gL_sJ, gQ_sI, gQ_sL, gQ_sJ, gN_sI, gN_sL, gN_sQ, gN_sJ, E_aald_0, E_cV_a, E_cV_b, E_c_0, E_getL_0, E_getR_0, E_jmp_0, E_jz_0, E_kk, E_lcmp_0, E_ldI_a, E_ldI_b, E_ldL_a, E_ldL_b, E_ldR_a, E_ldR_b, E_putL_0, E_rI_0, E_stI_0, E_stR_0, aL_91, am_cc, am_nl, am_ok, am_pop, am_rt, am_set, cC_10, cC_11, cC_6, cC_91, rQ_91, rR_1200, rR_701, sN_91, kX11_value, ↓s_hasWord, bI_z, not_true_eq_false, not_false_eq_true, hw1, h1, h2, h3, h4, hq.1, hj, lc_zero, e]
      rw [eX12_value 60]
      have e2 : ¬ gL σ 85 j = v := fun z => e (by rw [hv.1 j hj, z])
      simp only [am_run_s, bt, lf, am_in, am_ar, am_fit, am_ld, am_ct, Nat.reduceLT, Nat.reduceEqDiff, reduceIte, Nat.reduceAdd, Nat.reduceLeDiff, Nat.reduceSub, Bool.false_eq_true, if_true, if_false, ite_true, ite_false, List.length_cons, List.length_nil, Nat.zero_add, Nat.add_zero, and_true, true_and, true_or, or_true, and_self, Nat.le_refl, Nat.lt_irrefl, gI_sI, gL_sL, gQ_sQ, gI_sJ, gI_sL, gI_sQ, gL_sI, gL_sQ, gL_sJ, gQ_sI, gQ_sL, gQ_sJ, gN_sI, gN_sL, gN_sQ, gN_sJ, E_cV_a, E_cV_b, E_c_0, E_getR_0, E_jmp_0, E_jz_0, E_kk, E_lald_0, E_last_0, E_lcmp_0, E_ldI_a, E_ldI_b, E_ldL_a, E_ldL_b, E_ldR_a, E_ldR_b, E_rI_0, E_stI_0, aL_85, am_cc, am_nl, am_ok, am_pop, am_rt, am_set, cC_12, cC_85, rR_1312, kX12_value, ↓s_isWord, bI_z, not_true_eq_false, not_false_eq_true, hw2, h1, h2, h3, h4, gN_sI, gI_sI, Nat.reduceEqDiff, reduceIte, lc_zero, e2, gL_sL, am_b0, am_b1, i01]
      exact ⟨⟨_, rfl, rfl⟩, h.1, ⟨h.2.1.1, h.2.1.2.1, h.2.1.2.2.1, h.2.1.2.2.2.1, h.2.1.2.2.2.2.1, hvv, h.2.1.2.2.2.2.2.2⟩, h.2.2.1.up, h.2.2.2⟩
  · simp only [am_run_s, bt, lf, am_in, am_ar, am_fit, am_ld, am_ct, Nat.reduceLT, Nat.reduceEqDiff, reduceIte, Nat.reduceAdd, Nat.reduceLeDiff, Nat.reduceSub, Bool.false_eq_true, if_true, if_false, ite_true, ite_false, List.length_cons, List.length_nil, Nat.zero_add, Nat.add_zero, and_true, true_and, true_or, or_true, and_self, Nat.le_refl, Nat.lt_irrefl, gI_sI, gL_sL, gQ_sQ, gI_sJ, gI_sL, gI_sQ, gL_sI, gL_sQ, gL_sJ, gQ_sI, gQ_sL, gQ_sJ, gN_sI, gN_sL, gN_sQ, gN_sJ, E_aald_0, E_cV_a, E_cV_b, E_c_0, E_getL_0, E_getR_0, E_jmp_0, E_jz_0, E_kk, E_lcmp_0, E_ldI_a, E_ldI_b, E_ldL_a, E_ldL_b, E_ldR_a, E_ldR_b, E_putL_0, E_rI_0, E_stI_0, E_stR_0, aL_91, am_cc, am_nl, am_ok, am_pop, am_rt, am_set, cC_10, cC_11, cC_6, cC_91, rQ_91, rR_1200, rR_701, sN_91, kX11_value, ↓s_hasWord, bI_z, not_true_eq_false, not_false_eq_true, hw1, hx, ↓s_refuse3]
    rw [eX12_value 60]
    simp only [am_run_s, bt, lf, am_in, am_ar, am_fit, am_ld, am_ct, Nat.reduceLT, Nat.reduceEqDiff, reduceIte, Nat.reduceAdd, Nat.reduceLeDiff, Nat.reduceSub, Bool.false_eq_true, if_true, if_false, ite_true, ite_false, List.length_cons, List.length_nil, Nat.zero_add, Nat.add_zero, and_true, true_and, true_or, or_true, and_self, Nat.le_refl, Nat.lt_irrefl, gI_sI, gL_sL, gQ_sQ, gI_sJ, gI_sL, gI_sQ, gL_sI, gL_sQ, gL_sJ, gQ_sI, gQ_sL, gQ_sJ, gN_sI, gN_sL, gN_sQ, gN_sJ, E_cV_a, E_cV_b, E_c_0, E_getR_0, E_jmp_0, E_jz_0, E_kk, E_lald_0, E_last_0, E_lcmp_0, E_ldI_a, E_ldI_b, E_ldL_a, E_ldL_b, E_ldR_a, E_ldR_b, E_rI_0, E_stI_0, aL_85, am_cc, am_nl, am_ok, am_pop, am_rt, am_set, cC_12, cC_85, rR_1312, kX12_value, ↓s_isWord, bI_z, not_true_eq_false, not_false_eq_true, hw2, gN_sI, gI_sI, Nat.reduceEqDiff, reduceIte, hx, ↓s_no3]
    exact ⟨⟨_, rfl, rfl⟩, h.refuse⟩

