/-! ===== come, count, log, node ===== -/
theorem s_calledWithin (j : Nat) (t : Int32) (σ : HS) (Q : PO) (hj : j < gN σ 10) : MM 81 [.inr (.inr (some (10, j))), .inl t] σ Q ↔ Q (some (.inl (bI (¬ gI σ 1117 j = -1 ∧ t - gI σ 1117 j < gI σ 1105 j) inferInstance))) σ := by
  rw [eX10_calledWithinT 40]
  simp only [am_run_s, bt, lf, am_in, am_ar, am_fit, am_ld, am_ct, Nat.reduceLT, Nat.reduceEqDiff, reduceIte, Nat.reduceAdd, Nat.reduceLeDiff, Nat.reduceSub, Bool.false_eq_true, if_true, if_false, ite_true, ite_false, List.length_cons, List.length_nil, Nat.zero_add, Nat.add_zero, and_true, true_and, true_or, or_true, and_self, Nat.le_refl, Nat.lt_irrefl, gI_sI, gL_sL, gQ_sQ, gI_sJ, gI_sL, gI_sQ, gL_sI, gL_sQ, gL_sJ, gQ_sI, gQ_sL, gQ_sJ, gN_sI, gN_sL, gN_sQ, gN_sJ, E_b2_0, E_c_0, E_getI_0, E_je_0, E_jl_0, E_jmp_0, E_ldI_a, E_ldI_b, E_ldR_a, E_ldR_b, E_rZ_0, cC_10, kX10_calledWithinT, hj, am_b0, am_b1]
  by_cases h1 : gI σ 1117 j = -1 <;> by_cases h2 : t - gI σ 1117 j < gI σ 1105 j <;> simp [bI, h1, h2]
theorem ge0_iff (z : Int32) (h : ¬ z < -1) : (z < 0) ↔ z = -1 := by
  have e1 : (-1 : Int32).toInt = -1 := by decide
  have e0 : (0 : Int32).toInt = 0 := by decide
  rw [Int32.lt_iff_toInt_lt, e1] at h
  rw [Int32.lt_iff_toInt_lt, e0]
  constructor
  · intro q
    apply Int32.toInt_inj.mp
    rw [e1]; omega
  · intro q; rw [q, e1]; omega
theorem api_come (x : Int32) : apiI 109 177 [.inl x] := by
  intro k σ hk h
  obtain ⟨hw1, hw2, hw⟩ := h.wc
  rw [eX11_come 60]
  rcases ix x (n := gN σ 10) (by omega) with ⟨j, hj, rfl⟩ | hx
  · have h1 := nI_f (j := j) (by omega)
    have h2 := nI_t hj (by omega)
    have h3 : vp_in (nI j) 24 := vp_in_nI (by omega) (by omega)
    have h4 : (nI j).toNatClampNeg = j := nI_clamp (by omega)
    have hq := h.2.1.1 j hj
    have hkd := hq.2.2.1
    obtain ⟨hm, hm1, hm2, hm3⟩ := h.2.1.2.1 j hj
    have hnd := (h.1.2.2.1 hm hm1).2.2.1
    obtain ⟨tk, t1, t2, t3⟩ := h.2.2.1.2.2.1
    have hcl := h.2.2.1.2.2.2.2.1 j hj
    have hnc := h.nc.2.2
    by_cases hk1 : gI σ 39 j = 2
    · rw [hk1] at hkd
      obtain ⟨c1, c2, c3, c4⟩ := hcl.2.2.1 hk1
      have hg := ge0_iff _ c4
      by_cases ha : (¬ gI σ 48 j = -1 ∧ gI σ 1342 0 - gI σ 48 j < gI σ 41 j)
      · have ha' : (¬ gI σ 1117 j = -1 ∧ gI σ 1004 0 - gI σ 1117 j < gI σ 1105 j) := by rw [c1, t1, ← t2, hq.2.2.2.2.1]; exact ha
        simp only [am_run_s, bt, lf, am_in, am_ar, am_fit, am_ld, am_ct, Nat.reduceLT, Nat.reduceEqDiff, reduceIte, Nat.reduceAdd, Nat.reduceLeDiff, Nat.reduceSub, Bool.false_eq_true, if_true, if_false, ite_true, ite_false, List.length_cons, List.length_nil, Nat.zero_add, Nat.add_zero, and_true, true_and, true_or, or_true, and_self, Nat.le_refl, Nat.lt_irrefl, gI_sI, gL_sL, gQ_sQ, gI_sJ, gI_sL, gI_sQ, gL_sI, gL_sQ, gL_sJ, gQ_sI, gQ_sL, gQ_sJ, gN_sI, gN_sL, gN_sQ, gN_sJ, E_aald_0, E_cV_a, E_cV_b, E_c_0, E_getI_0, E_getR_0, E_je_0, E_jz_0, E_kk, E_ldI_a, E_ldI_b, E_ldR_a, E_ldR_b, E_putI_0, E_putZ_0, E_rI_0, E_stR_0, aL_91, am_cc, am_nl, am_ok, am_pop, am_rt, am_set, cC_10, cC_11, cC_3, cC_6, cC_9, cC_91, rQ_1101, rQ_91, rR_1200, rR_1204, rR_701, sN_91, kX11_come, kX11_come_0, kX11_come_1, ↓s_hasWord, bI_z, not_true_eq_false, not_false_eq_true, hw1, h1, h2, h3, h4, hq.1, hj, hkd, ↓s_calledWithin j _ σ _ hj, ha', ↓s_refuse7]
        rw [eX12_come 60]
        have g1 : ¬ gI σ 48 j < 0 := fun z => ha.1 (hg.mp z)
        simp only [am_run_s, bt, lf, am_in, am_ar, am_fit, am_ld, am_ct, Nat.reduceLT, Nat.reduceEqDiff, reduceIte, Nat.reduceAdd, Nat.reduceLeDiff, Nat.reduceSub, Bool.false_eq_true, if_true, if_false, ite_true, ite_false, List.length_cons, List.length_nil, Nat.zero_add, Nat.add_zero, and_true, true_and, true_or, or_true, and_self, Nat.le_refl, Nat.lt_irrefl, gI_sI, gL_sL, gQ_sQ, gI_sJ, gI_sL, gI_sQ, gL_sI, gL_sQ, gL_sJ, gQ_sI, gQ_sL, gQ_sJ, gN_sI, gN_sL, gN_sQ, gN_sJ, E_b2_0, E_cV_a, E_cV_b, E_c_0, E_getI_0, E_getR_0, E_iald_0, E_iast_0, E_je_0, E_jl_0, E_jn_0, E_jz_0, E_kk, E_ldI_a, E_ldI_b, E_ldR_a, E_ldR_b, E_rI_0, aL_37, aL_39, aL_41, aL_48, am_cc, am_pop, am_rt, cC_12, cC_37, cC_39, cC_41, cC_48, rR_1304, rR_1306, rR_1308, rR_1319, kX12_come, kX12_come_0, kX12_come_1, ↓s_isWord, bI_z, not_true_eq_false, not_false_eq_true, hw2, h1, h2, h3, h4, gN_sI, gI_sI, Nat.reduceEqDiff, reduceIte, hk1, g1, ha.2, ↓s_no7]
        exact ⟨⟨_, rfl, rfl⟩, h.refuse⟩
      · have ha' : ¬ (¬ gI σ 1117 j = -1 ∧ gI σ 1004 0 - gI σ 1117 j < gI σ 1105 j) := by rw [c1, t1, ← t2, hq.2.2.2.2.1]; exact ha
        have hMg : ∀ (σ' : HS) (Q : PO) (P : Prop), gI σ' 48 j = gI σ 48 j → gI σ' 1342 0 = gI σ 1342 0 → gI σ' 41 j = gI σ 41 j → gI σ' 39 j = gI σ 39 j → gI σ' 1314 0 = gI σ 1314 0 → gI σ' 37 j = gI σ 37 j → gI σ' 34 hm = gI σ 34 hm → (gI σ 34 hm < 256 → Q (some (.inl 1)) (sI σ' 48 j (gI σ 1342 0))) → (¬ gI σ 34 hm < 256 → Q (some (.inl (-7))) (sI σ' 33 7 (gI σ' 33 7 + 1))) → MM 177 [.inr (.inr (some (12, 0))), .inl (nI j)] σ' Q := by
          intro σ' Q P q1 q2 q3 q4 q5 q6 q7 q8 q9
          rw [eX12_come 60]
          by_cases g2 : gI σ 34 hm < 256
          · by_cases g1 : gI σ 48 j < 0
            · simp only [am_run_s, bt, lf, am_in, am_ar, am_fit, am_ld, am_ct, Nat.reduceLT, Nat.reduceEqDiff, reduceIte, Nat.reduceAdd, Nat.reduceLeDiff, Nat.reduceSub, Bool.false_eq_true, if_true, if_false, ite_true, ite_false, List.length_cons, List.length_nil, Nat.zero_add, Nat.add_zero, and_true, true_and, true_or, or_true, and_self, Nat.le_refl, Nat.lt_irrefl, gI_sI, gL_sL, gQ_sQ, gI_sJ, gI_sL, gI_sQ, gL_sI, gL_sQ, gL_sJ, gQ_sI, gQ_sL, gQ_sJ, gN_sI, gN_sL, gN_sQ, gN_sJ, E_b2_0, E_cV_a, E_cV_b, E_c_0, E_getI_0, E_getR_0, E_iald_0, E_iast_0, E_je_0, E_jl_0, E_jn_0, E_jz_0, E_kk, E_ldI_a, E_ldI_b, E_ldR_a, E_ldR_b, E_rI_0, aL_37, aL_39, aL_41, aL_48, am_cc, am_pop, am_rt, cC_12, cC_37, cC_39, cC_41, cC_48, rR_1304, rR_1306, rR_1308, rR_1319, kX12_come, kX12_come_0, kX12_come_1, ↓s_isWord, bI_z, not_true_eq_false, not_false_eq_true, hw2, h1, h2, h3, h4, gN_sI, gI_sI, Nat.reduceEqDiff, reduceIte, q1, q2, q3, q4, q5, q6, q7, hk1, g1, hm3, ↓s_MisOff hm _ _ (show hm < 10 by omega), g2, ↓s_no7]
              exact q8 g2
            · have g3 : ¬ gI σ 1342 0 - gI σ 48 j < gI σ 41 j := fun z => ha ⟨fun y => g1 (hg.mpr y), z⟩
              simp only [am_run_s, bt, lf, am_in, am_ar, am_fit, am_ld, am_ct, Nat.reduceLT, Nat.reduceEqDiff, reduceIte, Nat.reduceAdd, Nat.reduceLeDiff, Nat.reduceSub, Bool.false_eq_true, if_true, if_false, ite_true, ite_false, List.length_cons, List.length_nil, Nat.zero_add, Nat.add_zero, and_true, true_and, true_or, or_true, and_self, Nat.le_refl, Nat.lt_irrefl, gI_sI, gL_sL, gQ_sQ, gI_sJ, gI_sL, gI_sQ, gL_sI, gL_sQ, gL_sJ, gQ_sI, gQ_sL, gQ_sJ, gN_sI, gN_sL, gN_sQ, gN_sJ, E_b2_0, E_cV_a, E_cV_b, E_c_0, E_getI_0, E_getR_0, E_iald_0, E_iast_0, E_je_0, E_jl_0, E_jn_0, E_jz_0, E_kk, E_ldI_a, E_ldI_b, E_ldR_a, E_ldR_b, E_rI_0, aL_37, aL_39, aL_41, aL_48, am_cc, am_pop, am_rt, cC_12, cC_37, cC_39, cC_41, cC_48, rR_1304, rR_1306, rR_1308, rR_1319, kX12_come, kX12_come_0, kX12_come_1, ↓s_isWord, bI_z, not_true_eq_false, not_false_eq_true, hw2, h1, h2, h3, h4, gN_sI, gI_sI, Nat.reduceEqDiff, reduceIte, q1, q2, q3, q4, q5, q6, q7, hk1, g1, g3, hm3, ↓s_MisOff hm _ _ (show hm < 10 by omega), g2, ↓s_no7]
              exact q8 g2
          · by_cases g1 : gI σ 48 j < 0
            · simp only [am_run_s, bt, lf, am_in, am_ar, am_fit, am_ld, am_ct, Nat.reduceLT, Nat.reduceEqDiff, reduceIte, Nat.reduceAdd, Nat.reduceLeDiff, Nat.reduceSub, Bool.false_eq_true, if_true, if_false, ite_true, ite_false, List.length_cons, List.length_nil, Nat.zero_add, Nat.add_zero, and_true, true_and, true_or, or_true, and_self, Nat.le_refl, Nat.lt_irrefl, gI_sI, gL_sL, gQ_sQ, gI_sJ, gI_sL, gI_sQ, gL_sI, gL_sQ, gL_sJ, gQ_sI, gQ_sL, gQ_sJ, gN_sI, gN_sL, gN_sQ, gN_sJ, E_b2_0, E_cV_a, E_cV_b, E_c_0, E_getI_0, E_getR_0, E_iald_0, E_iast_0, E_je_0, E_jl_0, E_jn_0, E_jz_0, E_kk, E_ldI_a, E_ldI_b, E_ldR_a, E_ldR_b, E_rI_0, aL_37, aL_39, aL_41, aL_48, am_cc, am_pop, am_rt, cC_12, cC_37, cC_39, cC_41, cC_48, rR_1304, rR_1306, rR_1308, rR_1319, kX12_come, kX12_come_0, kX12_come_1, ↓s_isWord, bI_z, not_true_eq_false, not_false_eq_true, hw2, h1, h2, h3, h4, gN_sI, gI_sI, Nat.reduceEqDiff, reduceIte, q1, q2, q3, q4, q5, q6, q7, hk1, g1, hm3, ↓s_MisOff hm _ _ (show hm < 10 by omega), g2, ↓s_no7]
              exact q9 g2
            · have g3 : ¬ gI σ 1342 0 - gI σ 48 j < gI σ 41 j := fun z => ha ⟨fun y => g1 (hg.mpr y), z⟩
              simp only [am_run_s, bt, lf, am_in, am_ar, am_fit, am_ld, am_ct, Nat.reduceLT, Nat.reduceEqDiff, reduceIte, Nat.reduceAdd, Nat.reduceLeDiff, Nat.reduceSub, Bool.false_eq_true, if_true, if_false, ite_true, ite_false, List.length_cons, List.length_nil, Nat.zero_add, Nat.add_zero, and_true, true_and, true_or, or_true, and_self, Nat.le_refl, Nat.lt_irrefl, gI_sI, gL_sL, gQ_sQ, gI_sJ, gI_sL, gI_sQ, gL_sI, gL_sQ, gL_sJ, gQ_sI, gQ_sL, gQ_sJ, gN_sI, gN_sL, gN_sQ, gN_sJ, E_b2_0, E_cV_a, E_cV_b, E_c_0, E_getI_0, E_getR_0, E_iald_0, E_iast_0, E_je_0, E_jl_0, E_jn_0, E_jz_0, E_kk, E_ldI_a, E_ldI_b, E_ldR_a, E_ldR_b, E_rI_0, aL_37, aL_39, aL_41, aL_48, am_cc, am_pop, am_rt, cC_12, cC_37, cC_39, cC_41, cC_48, rR_1304, rR_1306, rR_1308, rR_1319, kX12_come, kX12_come_0, kX12_come_1, ↓s_isWord, bI_z, not_true_eq_false, not_false_eq_true, hw2, h1, h2, h3, h4, gN_sI, gI_sI, Nat.reduceEqDiff, reduceIte, q1, q2, q3, q4, q5, q6, q7, hk1, g1, g3, hm3, ↓s_MisOff hm _ _ (show hm < 10 by omega), g2, ↓s_no7]
              exact q9 g2
        by_cases g2 : gI σ 401 hm < 256
        · simp only [am_run_s, bt, lf, am_in, am_ar, am_fit, am_ld, am_ct, Nat.reduceLT, Nat.reduceEqDiff, reduceIte, Nat.reduceAdd, Nat.reduceLeDiff, Nat.reduceSub, Bool.false_eq_true, if_true, if_false, ite_true, ite_false, List.length_cons, List.length_nil, Nat.zero_add, Nat.add_zero, and_true, true_and, true_or, or_true, and_self, Nat.le_refl, Nat.lt_irrefl, gI_sI, gL_sL, gQ_sQ, gI_sJ, gI_sL, gI_sQ, gL_sI, gL_sQ, gL_sJ, gQ_sI, gQ_sL, gQ_sJ, gN_sI, gN_sL, gN_sQ, gN_sJ, E_aald_0, E_cV_a, E_cV_b, E_c_0, E_getI_0, E_getR_0, E_je_0, E_jz_0, E_kk, E_ldI_a, E_ldI_b, E_ldR_a, E_ldR_b, E_putI_0, E_putZ_0, E_rI_0, E_stR_0, aL_91, am_cc, am_nl, am_ok, am_pop, am_rt, am_set, cC_10, cC_11, cC_3, cC_6, cC_9, cC_91, rQ_1101, rQ_91, rR_1200, rR_1204, rR_701, sN_91, kX11_come, kX11_come_0, kX11_come_1, ↓s_hasWord, bI_z, not_true_eq_false, not_false_eq_true, hw1, h1, h2, h3, h4, hq.1, hj, hkd, ↓s_calledWithin j _ σ _ hj, ha', hm2, hm1, ↓s_nodeIsOff hm σ _ hm1, g2, am_b1, ↓s_lookAll]
          refine hMg _ _ True rfl rfl rfl rfl rfl rfl rfl (fun _ => ?_) (fun z => absurd (by rw [← hnd]; exact g2) z)
          have hso : v_soo (sI (sI (sI (sI σ 1116 j 1) 1117 j (gI σ 1004 0)) 1015 0 0) 48 j (gI σ 1342 0)) := v_soo.zero (m := sI (sI (sI (sI σ 1116 j 1) 1117 j (gI σ 1004 0)) 1015 0 0) 48 j (gI σ 1342 0)) h.2.1.1 h.2.1.2.2.2.1 h.2.2.1.2.2.2.1 h.2.1.2.2.2.2.2.2 rfl
          have hca : v_cal (sI (sI (sI (sI σ 1116 j 1) 1117 j (gI σ 1004 0)) 1015 0 0) 48 j (gI σ 1342 0)) (sI (sI (sI (sI σ 1116 j 1) 1117 j (gI σ 1004 0)) 1015 0 0) 48 j (gI σ 1342 0)) := by
            intro i hi
            have hi : i < gN σ 10 := hi
            have hold := h.2.2.1.2.2.2.2.1 i hi
            simp only [gN_sI, gI_sI, Nat.reduceEqDiff, reduceIte]
            by_cases ei : i = j
            · subst ei
              simp only [reduceIte, hk1]
              refine ⟨Or.inr rfl, fun z => absurd z (by decide), fun _ => ⟨by rw [t1, t2], trivial, ?_, ?_⟩, fun z => absurd z (by decide)⟩
              · rw [t2]; exact nI_nlt (Nat.le_refl _) (by omega)
              · rw [t2, Int32.lt_iff_toInt_lt, nI_toInt (by omega), show (-1 : Int32).toInt = -1 by decide]; omega
            · simp only [ei, reduceIte]
              exact hold
          exact ⟨⟨_, rfl, rfl⟩, h.1, h.2.1, ⟨h.2.2.1.1, h.2.2.1.2.1, h.2.2.1.2.2.1.up, h.2.2.1.2.2.2.1, hca, hso, h.2.2.1.2.2.2.2.2.2.1, h.2.2.1.2.2.2.2.2.2.2.1, h.2.2.1.2.2.2.2.2.2.2.2.1, h.2.2.1.2.2.2.2.2.2.2.2.2⟩, h.2.2.2⟩
        · simp only [am_run_s, bt, lf, am_in, am_ar, am_fit, am_ld, am_ct, Nat.reduceLT, Nat.reduceEqDiff, reduceIte, Nat.reduceAdd, Nat.reduceLeDiff, Nat.reduceSub, Bool.false_eq_true, if_true, if_false, ite_true, ite_false, List.length_cons, List.length_nil, Nat.zero_add, Nat.add_zero, and_true, true_and, true_or, or_true, and_self, Nat.le_refl, Nat.lt_irrefl, gI_sI, gL_sL, gQ_sQ, gI_sJ, gI_sL, gI_sQ, gL_sI, gL_sQ, gL_sJ, gQ_sI, gQ_sL, gQ_sJ, gN_sI, gN_sL, gN_sQ, gN_sJ, E_aald_0, E_cV_a, E_cV_b, E_c_0, E_getI_0, E_getR_0, E_je_0, E_jz_0, E_kk, E_ldI_a, E_ldI_b, E_ldR_a, E_ldR_b, E_putI_0, E_putZ_0, E_rI_0, E_stR_0, aL_91, am_cc, am_nl, am_ok, am_pop, am_rt, am_set, cC_10, cC_11, cC_3, cC_6, cC_9, cC_91, rQ_1101, rQ_91, rR_1200, rR_1204, rR_701, sN_91, kX11_come, kX11_come_0, kX11_come_1, ↓s_hasWord, bI_z, not_true_eq_false, not_false_eq_true, hw1, h1, h2, h3, h4, hq.1, hj, hkd, ↓s_calledWithin j _ σ _ hj, ha', hm2, hm1, ↓s_nodeIsOff hm σ _ hm1, g2, am_b1, ↓s_refuse7]
          exact hMg _ _ True rfl rfl rfl rfl rfl rfl rfl (fun z => absurd (by rw [hnd]; exact z) g2) (fun _ => ⟨⟨_, rfl, rfl⟩, h.refuse⟩)
    · have hk2 : ¬ gI σ 1103 j = 2 := fun z => hk1 (by rw [← hkd, z])
      simp only [am_run_s, bt, lf, am_in, am_ar, am_fit, am_ld, am_ct, Nat.reduceLT, Nat.reduceEqDiff, reduceIte, Nat.reduceAdd, Nat.reduceLeDiff, Nat.reduceSub, Bool.false_eq_true, if_true, if_false, ite_true, ite_false, List.length_cons, List.length_nil, Nat.zero_add, Nat.add_zero, and_true, true_and, true_or, or_true, and_self, Nat.le_refl, Nat.lt_irrefl, gI_sI, gL_sL, gQ_sQ, gI_sJ, gI_sL, gI_sQ, gL_sI, gL_sQ, gL_sJ, gQ_sI, gQ_sL, gQ_sJ, gN_sI, gN_sL, gN_sQ, gN_sJ, E_aald_0, E_cV_a, E_cV_b, E_c_0, E_getI_0, E_getR_0, E_je_0, E_jz_0, E_kk, E_ldI_a, E_ldI_b, E_ldR_a, E_ldR_b, E_putI_0, E_putZ_0, E_rI_0, E_stR_0, aL_91, am_cc, am_nl, am_ok, am_pop, am_rt, am_set, cC_10, cC_11, cC_3, cC_6, cC_9, cC_91, rQ_1101, rQ_91, rR_1200, rR_1204, rR_701, sN_91, kX11_come, kX11_come_0, kX11_come_1, ↓s_hasWord, bI_z, not_true_eq_false, not_false_eq_true, hw1, h1, h2, h3, h4, hq.1, hj, hk2, ↓s_refuse5]
      rw [eX12_come 60]
      simp only [am_run_s, bt, lf, am_in, am_ar, am_fit, am_ld, am_ct, Nat.reduceLT, Nat.reduceEqDiff, reduceIte, Nat.reduceAdd, Nat.reduceLeDiff, Nat.reduceSub, Bool.false_eq_true, if_true, if_false, ite_true, ite_false, List.length_cons, List.length_nil, Nat.zero_add, Nat.add_zero, and_true, true_and, true_or, or_true, and_self, Nat.le_refl, Nat.lt_irrefl, gI_sI, gL_sL, gQ_sQ, gI_sJ, gI_sL, gI_sQ, gL_sI, gL_sQ, gL_sJ, gQ_sI, gQ_sL, gQ_sJ, gN_sI, gN_sL, gN_sQ, gN_sJ, E_b2_0, E_cV_a, E_cV_b, E_c_0, E_getI_0, E_getR_0, E_iald_0, E_iast_0, E_je_0, E_jl_0, E_jn_0, E_jz_0, E_kk, E_ldI_a, E_ldI_b, E_ldR_a, E_ldR_b, E_rI_0, aL_37, aL_39, aL_41, aL_48, am_cc, am_pop, am_rt, cC_12, cC_37, cC_39, cC_41, cC_48, rR_1304, rR_1306, rR_1308, rR_1319, kX12_come, kX12_come_0, kX12_come_1, ↓s_isWord, bI_z, not_true_eq_false, not_false_eq_true, hw2, h1, h2, h3, h4, gN_sI, gI_sI, Nat.reduceEqDiff, reduceIte, hk1, ↓s_no5]
      exact ⟨⟨_, rfl, rfl⟩, h.refuse⟩
  · simp only [am_run_s, bt, lf, am_in, am_ar, am_fit, am_ld, am_ct, Nat.reduceLT, Nat.reduceEqDiff, reduceIte, Nat.reduceAdd, Nat.reduceLeDiff, Nat.reduceSub, Bool.false_eq_true, if_true, if_false, ite_true, ite_false, List.length_cons, List.length_nil, Nat.zero_add, Nat.add_zero, and_true, true_and, true_or, or_true, and_self, Nat.le_refl, Nat.lt_irrefl, gI_sI, gL_sL, gQ_sQ, gI_sJ, gI_sL, gI_sQ, gL_sI, gL_sQ, gL_sJ, gQ_sI, gQ_sL, gQ_sJ, gN_sI, gN_sL, gN_sQ, gN_sJ, E_aald_0, E_cV_a, E_cV_b, E_c_0, E_getI_0, E_getR_0, E_je_0, E_jz_0, E_kk, E_ldI_a, E_ldI_b, E_ldR_a, E_ldR_b, E_putI_0, E_putZ_0, E_rI_0, E_stR_0, aL_91, am_cc, am_nl, am_ok, am_pop, am_rt, am_set, cC_10, cC_11, cC_3, cC_6, cC_9, cC_91, rQ_1101, rQ_91, rR_1200, rR_1204, rR_701, sN_91, kX11_come, kX11_come_0, kX11_come_1, ↓s_hasWord, bI_z, not_true_eq_false, not_false_eq_true, hw1, hx, ↓s_refuse3]
    rw [eX12_come 60]
    simp only [am_run_s, bt, lf, am_in, am_ar, am_fit, am_ld, am_ct, Nat.reduceLT, Nat.reduceEqDiff, reduceIte, Nat.reduceAdd, Nat.reduceLeDiff, Nat.reduceSub, Bool.false_eq_true, if_true, if_false, ite_true, ite_false, List.length_cons, List.length_nil, Nat.zero_add, Nat.add_zero, and_true, true_and, true_or, or_true, and_self, Nat.le_refl, Nat.lt_irrefl, gI_sI, gL_sL, gQ_sQ, gI_sJ, gI_sL, gI_sQ, gL_sI, gL_sQ, gL_sJ, gQ_sI, gQ_sL, gQ_sJ, gN_sI, gN_sL, gN_sQ, gN_sJ, E_b2_0, E_cV_a, E_cV_b, E_c_0, E_getI_0, E_getR_0, E_iald_0, E_iast_0, E_je_0, E_jl_0, E_jn_0, E_jz_0, E_kk, E_ldI_a, E_ldI_b, E_ldR_a, E_ldR_b, E_rI_0, aL_37, aL_39, aL_41, aL_48, am_cc, am_pop, am_rt, cC_12, cC_37, cC_39, cC_41, cC_48, rR_1304, rR_1306, rR_1308, rR_1319, kX12_come, kX12_come_0, kX12_come_1, ↓s_isWord, bI_z, not_true_eq_false, not_false_eq_true, hw2, gN_sI, gI_sI, Nat.reduceEqDiff, reduceIte, hx, ↓s_no3]
    exact ⟨⟨_, rfl, rfl⟩, h.refuse⟩

