/-! ===== the desk's small calls, the row, the reading, the wire's numbers ===== -/
theorem api_every (x : Int32) : apiI 114 192 [.inl x] := by
  intro k σ hk h
  have hdk := h.2.2.2.2.2.1
  have hod := h.2.2.2.2.2.2.1
  rw [eX11_every 60]
  by_cases hb : x = 0 ∨ (¬ x < 100 ∧ ¬ 1000000 < x)
  · have hd2 : ∀ (x' m' : HS), gI x' 107 0 = x → gI m' 1359 0 = x → v_dsk x' m' := by
      intro x' m' q1 q2
      refine ⟨by rw [q1, q2], ?_⟩
      rw [q2]
      rcases hb with rfl | ⟨q3, q4⟩
      · exact ⟨0, by decide, Or.inl rfl, by omega⟩
      · have ea : (100 : Int32).toInt = 100 := by decide
        have eb : (1000000 : Int32).toInt = 1000000 := by decide
        rw [Int32.lt_iff_toInt_lt, ea] at q3
        rw [Int32.lt_iff_toInt_lt, eb] at q4
        refine ⟨x.toInt.toNat, ?_, Or.inr (by omega), by omega⟩
        apply Int32.toInt_inj.mp
        rw [nI_toInt (by omega)]; omega
    have hX : ∀ Q : PO, (x = gI σ 107 0 → Q (some (.inl (gI σ 107 0))) σ) → (¬ x = gI σ 107 0 → Q (some (.inl (gI σ 107 0))) (sI (sI σ 107 0 x) 106 0 0)) → am_run (kX11_every S1) MM Q 60 0 (am_in 3 [.inr (.inr (some (11, 0))), .inl x]) [] σ 0 0 := by
      intro Q q1 q2
      rcases hb with q3 | q3
      · by_cases e : x = gI σ 107 0
        · simp only [am_run_s, bt, lf, am_in, am_ar, am_fit, am_ld, am_ct, Nat.reduceLT, Nat.reduceEqDiff, reduceIte, Nat.reduceAdd, Nat.reduceLeDiff, Nat.reduceSub, Bool.false_eq_true, if_true, if_false, ite_true, ite_false, List.length_cons, List.length_nil, Nat.zero_add, Nat.add_zero, and_true, true_and, true_or, or_true, and_self, Nat.le_refl, Nat.lt_irrefl, gI_sI, gL_sL, gQ_sQ, gI_sJ, gI_sL, gI_sQ, gL_sI, gL_sQ, gL_sJ, gQ_sI, gQ_sL, gQ_sJ, gN_sI, gN_sL, gN_sQ, gN_sJ, E_cS_a, E_cS_b, E_cV_a, E_cV_b, E_c_0, E_getI_0, E_getR_0, E_je_0, E_jz_0, E_kk, E_ldI_a, E_ldI_b, E_ldR_a, E_ldR_b, E_putI_0, E_rI_0, E_stI_0, am_cc, am_nl, am_ok, am_pop, am_rt, am_set, cC_0, cC_11, rR_1205, kX11_every, q3, ↓s_forgetOrder]
          rw [q3] at e q1
          rw [if_pos e]; exact q1 e
        · simp only [am_run_s, bt, lf, am_in, am_ar, am_fit, am_ld, am_ct, Nat.reduceLT, Nat.reduceEqDiff, reduceIte, Nat.reduceAdd, Nat.reduceLeDiff, Nat.reduceSub, Bool.false_eq_true, if_true, if_false, ite_true, ite_false, List.length_cons, List.length_nil, Nat.zero_add, Nat.add_zero, and_true, true_and, true_or, or_true, and_self, Nat.le_refl, Nat.lt_irrefl, gI_sI, gL_sL, gQ_sQ, gI_sJ, gI_sL, gI_sQ, gL_sI, gL_sQ, gL_sJ, gQ_sI, gQ_sL, gQ_sJ, gN_sI, gN_sL, gN_sQ, gN_sJ, E_cS_a, E_cS_b, E_cV_a, E_cV_b, E_c_0, E_getI_0, E_getR_0, E_je_0, E_jz_0, E_kk, E_ldI_a, E_ldI_b, E_ldR_a, E_ldR_b, E_putI_0, E_rI_0, E_stI_0, am_cc, am_nl, am_ok, am_pop, am_rt, am_set, cC_0, cC_11, rR_1205, kX11_every, q3, ↓s_forgetOrder]
          rw [q3] at e q2
          rw [if_neg e]; exact q2 e
      · by_cases e0 : x = 0
        · subst e0; exact absurd (by decide) q3.1
        · by_cases e : x = gI σ 107 0
          · simp only [am_run_s, bt, lf, am_in, am_ar, am_fit, am_ld, am_ct, Nat.reduceLT, Nat.reduceEqDiff, reduceIte, Nat.reduceAdd, Nat.reduceLeDiff, Nat.reduceSub, Bool.false_eq_true, if_true, if_false, ite_true, ite_false, List.length_cons, List.length_nil, Nat.zero_add, Nat.add_zero, and_true, true_and, true_or, or_true, and_self, Nat.le_refl, Nat.lt_irrefl, gI_sI, gL_sL, gQ_sQ, gI_sJ, gI_sL, gI_sQ, gL_sI, gL_sQ, gL_sJ, gQ_sI, gQ_sL, gQ_sJ, gN_sI, gN_sL, gN_sQ, gN_sJ, E_cS_a, E_cS_b, E_cV_a, E_cV_b, E_c_0, E_getI_0, E_getR_0, E_je_0, E_jz_0, E_kk, E_ldI_a, E_ldI_b, E_ldR_a, E_ldR_b, E_putI_0, E_rI_0, E_stI_0, am_cc, am_nl, am_ok, am_pop, am_rt, am_set, cC_0, cC_11, rR_1205, kX11_every, e0, ↓s_isWithin, bI_z, not_true_eq_false, not_false_eq_true, q3, ↓s_forgetOrder, if_pos e]; exact q1 e
          · simp only [am_run_s, bt, lf, am_in, am_ar, am_fit, am_ld, am_ct, Nat.reduceLT, Nat.reduceEqDiff, reduceIte, Nat.reduceAdd, Nat.reduceLeDiff, Nat.reduceSub, Bool.false_eq_true, if_true, if_false, ite_true, ite_false, List.length_cons, List.length_nil, Nat.zero_add, Nat.add_zero, and_true, true_and, true_or, or_true, and_self, Nat.le_refl, Nat.lt_irrefl, gI_sI, gL_sL, gQ_sQ, gI_sJ, gI_sL, gI_sQ, gL_sI, gL_sQ, gL_sJ, gQ_sI, gQ_sL, gQ_sJ, gN_sI, gN_sL, gN_sQ, gN_sJ, E_cS_a, E_cS_b, E_cV_a, E_cV_b, E_c_0, E_getI_0, E_getR_0, E_je_0, E_jz_0, E_kk, E_ldI_a, E_ldI_b, E_ldR_a, E_ldR_b, E_putI_0, E_rI_0, E_stI_0, am_cc, am_nl, am_ok, am_pop, am_rt, am_set, cC_0, cC_11, rR_1205, kX11_every, e0, ↓s_isWithin, bI_z, not_true_eq_false, not_false_eq_true, q3, ↓s_forgetOrder, if_neg e]; exact q2 e
    have hM : ∀ (σ' : HS) (Q : PO), gI σ' 1361 0 = gI σ 1361 0 → gI σ' 1359 0 = gI σ 1359 0 → Q (some (.inl (gI σ 1359 0))) (sI (sI σ' 1359 0 x) 1361 0 (if gI σ 1359 0 = x then gI σ 1361 0 else 0)) → MM 192 [.inr (.inr (some (12, 0))), .inl x] σ' Q := by
      intro σ' Q q1 q2 q3
      rw [eX12_every 60]
      have hz : ∀ p : Prop, ∀ d : Decidable p, (x = 0 ∨ p) → (¬ x = 0 → p) := fun p d q e => q.resolve_left e
      rcases hod.b with ho | ho <;> by_cases e0 : x = 0 <;> by_cases e : gI σ 1359 0 = x
      all_goals first
        | (have hb3 := hb.resolve_left e0
           simp only [am_run_s, bt, lf, am_in, am_ar, am_fit, am_ld, am_ct, Nat.reduceLT, Nat.reduceEqDiff, reduceIte, Nat.reduceAdd, Nat.reduceLeDiff, Nat.reduceSub, Bool.false_eq_true, if_true, if_false, ite_true, ite_false, List.length_cons, List.length_nil, Nat.zero_add, Nat.add_zero, and_true, true_and, true_or, or_true, and_self, Nat.le_refl, Nat.lt_irrefl, gI_sI, gL_sL, gQ_sQ, gI_sJ, gI_sL, gI_sQ, gL_sI, gL_sQ, gL_sJ, gQ_sI, gQ_sL, gQ_sJ, gN_sI, gN_sL, gN_sQ, gN_sJ, E_cS_a, E_cS_b, E_cV_a, E_cV_b, E_c_0, E_getI_0, E_i2l_0, E_je_0, E_jmp_0, E_jz_0, E_kk, E_ldI_a, E_ldI_b, E_ldR_a, E_ldR_b, E_putI_0, E_putZ_0, E_rI_0, E_stI_0, am_cc, am_nl, am_ok, am_pop, am_rt, am_set, cC_12, kX12_every, e0, ↓s_isIn100_1000000, bI_z, not_true_eq_false, not_false_eq_true, hb3, q1, q2, ho, e, i01, am_b0, am_b1, gN_sI, gI_sI, Nat.reduceEqDiff, reduceIte]
           simp only [ho, e, if_true, if_false] at q3
           exact q3)
        | (simp only [e0] at q3 e
           simp only [am_run_s, bt, lf, am_in, am_ar, am_fit, am_ld, am_ct, Nat.reduceLT, Nat.reduceEqDiff, reduceIte, Nat.reduceAdd, Nat.reduceLeDiff, Nat.reduceSub, Bool.false_eq_true, if_true, if_false, ite_true, ite_false, List.length_cons, List.length_nil, Nat.zero_add, Nat.add_zero, and_true, true_and, true_or, or_true, and_self, Nat.le_refl, Nat.lt_irrefl, gI_sI, gL_sL, gQ_sQ, gI_sJ, gI_sL, gI_sQ, gL_sI, gL_sQ, gL_sJ, gQ_sI, gQ_sL, gQ_sJ, gN_sI, gN_sL, gN_sQ, gN_sJ, E_cS_a, E_cS_b, E_cV_a, E_cV_b, E_c_0, E_getI_0, E_i2l_0, E_je_0, E_jmp_0, E_jz_0, E_kk, E_ldI_a, E_ldI_b, E_ldR_a, E_ldR_b, E_putI_0, E_putZ_0, E_rI_0, E_stI_0, am_cc, am_nl, am_ok, am_pop, am_rt, am_set, cC_12, kX12_every, e0, q1, q2, ho, e, i01, am_b0, am_b1, gN_sI, gI_sI, Nat.reduceEqDiff, reduceIte]
           simp only [ho, e, if_true, if_false] at q3
           exact q3)
    refine hX _ (fun e => ?_) (fun e => ?_)
    · refine hM _ _ rfl rfl ⟨⟨_, rfl, by rw [hdk.1]⟩, ?_⟩
      rw [if_pos (by rw [← hdk.1, e])]
      have hdd := hd2 (sI (sI σ 1359 0 x) 1361 0 (gI σ 1361 0)) (sI (sI σ 1359 0 x) 1361 0 (gI σ 1361 0)) e.symm rfl
      exact ⟨h.1, h.2.1, h.2.2.1.up, ⟨h.2.2.2.1, h.2.2.2.2.1, hdd, h.2.2.2.2.2.2.1, h.2.2.2.2.2.2.2.1, h.2.2.2.2.2.2.2.2⟩⟩
    · refine hM _ _ rfl rfl ⟨⟨_, rfl, by rw [hdk.1]⟩, ?_⟩
      rw [if_neg (fun z => e (by rw [hdk.1, z]))]
      have hdd := hd2 (sI (sI (sI (sI σ 107 0 x) 106 0 0) 1359 0 x) 1361 0 0) (sI (sI (sI (sI σ 107 0 x) 106 0 0) 1359 0 x) 1361 0 0) rfl rfl
      exact ⟨h.1, h.2.1, h.2.2.1.up, ⟨h.2.2.2.1, h.2.2.2.2.1, hdd, v_ord.zero rfl rfl, h.2.2.2.2.2.2.2.1, h.2.2.2.2.2.2.2.2⟩⟩
  · have hb1 : ¬ x = 0 := fun e => hb (Or.inl e)
    have hb2 : ¬ (¬ x < 100 ∧ ¬ 1000000 < x) := fun e => hb (Or.inr e)
    simp only [am_run_s, bt, lf, am_in, am_ar, am_fit, am_ld, am_ct, Nat.reduceLT, Nat.reduceEqDiff, reduceIte, Nat.reduceAdd, Nat.reduceLeDiff, Nat.reduceSub, Bool.false_eq_true, if_true, if_false, ite_true, ite_false, List.length_cons, List.length_nil, Nat.zero_add, Nat.add_zero, and_true, true_and, true_or, or_true, and_self, Nat.le_refl, Nat.lt_irrefl, gI_sI, gL_sL, gQ_sQ, gI_sJ, gI_sL, gI_sQ, gL_sI, gL_sQ, gL_sJ, gQ_sI, gQ_sL, gQ_sJ, gN_sI, gN_sL, gN_sQ, gN_sJ, E_cS_a, E_cS_b, E_cV_a, E_cV_b, E_c_0, E_getI_0, E_getR_0, E_je_0, E_jz_0, E_kk, E_ldI_a, E_ldI_b, E_ldR_a, E_ldR_b, E_putI_0, E_rI_0, E_stI_0, am_cc, am_nl, am_ok, am_pop, am_rt, am_set, cC_0, cC_11, rR_1205, kX11_every, hb1, ↓s_isWithin, bI_z, not_true_eq_false, not_false_eq_true, hb2, ↓s_refuse7]
    rw [eX12_every 60]
    simp only [am_run_s, bt, lf, am_in, am_ar, am_fit, am_ld, am_ct, Nat.reduceLT, Nat.reduceEqDiff, reduceIte, Nat.reduceAdd, Nat.reduceLeDiff, Nat.reduceSub, Bool.false_eq_true, if_true, if_false, ite_true, ite_false, List.length_cons, List.length_nil, Nat.zero_add, Nat.add_zero, and_true, true_and, true_or, or_true, and_self, Nat.le_refl, Nat.lt_irrefl, gI_sI, gL_sL, gQ_sQ, gI_sJ, gI_sL, gI_sQ, gL_sI, gL_sQ, gL_sJ, gQ_sI, gQ_sL, gQ_sJ, gN_sI, gN_sL, gN_sQ, gN_sJ, E_cS_a, E_cS_b, E_cV_a, E_cV_b, E_c_0, E_getI_0, E_i2l_0, E_je_0, E_jmp_0, E_jz_0, E_kk, E_ldI_a, E_ldI_b, E_ldR_a, E_ldR_b, E_putI_0, E_putZ_0, E_rI_0, E_stI_0, am_cc, am_nl, am_ok, am_pop, am_rt, am_set, cC_12, kX12_every, hb1, ↓s_isIn100_1000000, bI_z, not_true_eq_false, not_false_eq_true, hb2, ↓s_no7]
    exact ⟨⟨_, rfl, rfl⟩, h.refuse⟩

theorem api_place (x : Int32) : apiI 120 206 [.inl x] := by
  intro k σ hk h
  obtain ⟨hw1, hw2, hw⟩ := h.wc
  have hod := h.2.2.2.2.2.2.1
  rw [eX11_place 60]
  rcases hod.b with ho | ho
  · have ho1 : gI σ 106 0 = 0 := by rw [hod.1, ho]
    simp only [am_run_s, bt, lf, am_in, am_ar, am_fit, am_ld, am_ct, Nat.reduceLT, Nat.reduceEqDiff, reduceIte, Nat.reduceAdd, Nat.reduceLeDiff, Nat.reduceSub, Bool.false_eq_true, if_true, if_false, ite_true, ite_false, List.length_cons, List.length_nil, Nat.zero_add, Nat.add_zero, and_true, true_and, true_or, or_true, and_self, Nat.le_refl, Nat.lt_irrefl, gI_sI, gL_sL, gQ_sQ, gI_sJ, gI_sL, gI_sQ, gL_sI, gL_sQ, gL_sJ, gQ_sI, gQ_sL, gQ_sJ, gN_sI, gN_sL, gN_sQ, gN_sJ, E_cV_a, E_cV_b, E_c_0, E_getI_0, E_getR_0, E_iald_0, E_jz_0, E_kk, E_ldI_a, E_ldI_b, E_ldR_a, E_ldR_b, E_rI_0, aL_23, am_cc, am_pop, am_rt, cC_0, cC_11, cC_23, cC_6, rR_104, rR_1200, rR_1205, kX11_place, ho1, ↓s_refuse2]
    rw [eX12_place 60]
    simp only [am_run_s, bt, lf, am_in, am_ar, am_fit, am_ld, am_ct, Nat.reduceLT, Nat.reduceEqDiff, reduceIte, Nat.reduceAdd, Nat.reduceLeDiff, Nat.reduceSub, Bool.false_eq_true, if_true, if_false, ite_true, ite_false, List.length_cons, List.length_nil, Nat.zero_add, Nat.add_zero, and_true, true_and, true_or, or_true, and_self, Nat.le_refl, Nat.lt_irrefl, gI_sI, gL_sL, gQ_sQ, gI_sJ, gI_sL, gI_sQ, gL_sI, gL_sQ, gL_sJ, gQ_sI, gQ_sL, gQ_sJ, gN_sI, gN_sL, gN_sQ, gN_sJ, E_b2_0, E_cS_a, E_cS_b, E_cV_a, E_cV_b, E_c_0, E_getI_0, E_getR_0, E_i2l_0, E_iald_0, E_jmp_0, E_jz_0, E_kk, E_ldI_a, E_ldI_b, E_ldR_a, E_ldR_b, E_rI_0, aL_59, am_cc, am_pop, am_rt, cC_12, cC_59, rR_1360, kX12_place, ho, ↓s_no2, gN_sI, gI_sI, Nat.reduceEqDiff, reduceIte]
    exact ⟨⟨_, rfl, rfl⟩, h.refuse⟩
  · have ho1 : gI σ 106 0 = 1 := by rw [hod.1, ho]
    rcases ix' x (n := gN σ 10) (by omega) with ⟨j, hj, rfl⟩ | ⟨hx, hx'⟩
    · have h1 := nI_f (j := j) (by omega)
      have h2 := nI_t hj (by omega)
      have h2' := nI_l1 hj (by omega)
      have h3 : vp_in (nI j) 24 := vp_in_nI (by omega) (by omega)
      have h4 : (nI j).toNatClampNeg = j := nI_clamp (by omega)
      simp only [am_run_s, bt, lf, am_in, am_ar, am_fit, am_ld, am_ct, Nat.reduceLT, Nat.reduceEqDiff, reduceIte, Nat.reduceAdd, Nat.reduceLeDiff, Nat.reduceSub, Bool.false_eq_true, if_true, if_false, ite_true, ite_false, List.length_cons, List.length_nil, Nat.zero_add, Nat.add_zero, and_true, true_and, true_or, or_true, and_self, Nat.le_refl, Nat.lt_irrefl, gI_sI, gL_sL, gQ_sQ, gI_sJ, gI_sL, gI_sQ, gL_sI, gL_sQ, gL_sJ, gQ_sI, gQ_sL, gQ_sJ, gN_sI, gN_sL, gN_sQ, gN_sJ, E_cV_a, E_cV_b, E_c_0, E_getI_0, E_getR_0, E_iald_0, E_jz_0, E_kk, E_ldI_a, E_ldI_b, E_ldR_a, E_ldR_b, E_rI_0, aL_23, am_cc, am_pop, am_rt, cC_0, cC_11, cC_23, cC_6, rR_104, rR_1200, rR_1205, kX11_place, ho1, i01, ↓s_hasWord, bI_z, not_true_eq_false, not_false_eq_true, hw1, h1, h2, h3, h4]
      rw [eX12_place 60]
      simp only [am_run_s, bt, lf, am_in, am_ar, am_fit, am_ld, am_ct, Nat.reduceLT, Nat.reduceEqDiff, reduceIte, Nat.reduceAdd, Nat.reduceLeDiff, Nat.reduceSub, Bool.false_eq_true, if_true, if_false, ite_true, ite_false, List.length_cons, List.length_nil, Nat.zero_add, Nat.add_zero, and_true, true_and, true_or, or_true, and_self, Nat.le_refl, Nat.lt_irrefl, gI_sI, gL_sL, gQ_sQ, gI_sJ, gI_sL, gI_sQ, gL_sI, gL_sQ, gL_sJ, gQ_sI, gQ_sL, gQ_sJ, gN_sI, gN_sL, gN_sQ, gN_sJ, E_b2_0, E_cS_a, E_cS_b, E_cV_a, E_cV_b, E_c_0, E_getI_0, E_getR_0, E_i2l_0, E_iald_0, E_jmp_0, E_jz_0, E_kk, E_ldI_a, E_ldI_b, E_ldR_a, E_ldR_b, E_rI_0, aL_59, am_cc, am_pop, am_rt, cC_12, cC_59, rR_1360, kX12_place, ho, i01, ↓s_isIn0, bI_z, not_true_eq_false, not_false_eq_true, hw2, h1, h2', h3, h4]
      exact ⟨⟨_, rfl, by rw [((hod.2.2 ho).1 j hj).1]⟩, h.up⟩
    · simp only [am_run_s, bt, lf, am_in, am_ar, am_fit, am_ld, am_ct, Nat.reduceLT, Nat.reduceEqDiff, reduceIte, Nat.reduceAdd, Nat.reduceLeDiff, Nat.reduceSub, Bool.false_eq_true, if_true, if_false, ite_true, ite_false, List.length_cons, List.length_nil, Nat.zero_add, Nat.add_zero, and_true, true_and, true_or, or_true, and_self, Nat.le_refl, Nat.lt_irrefl, gI_sI, gL_sL, gQ_sQ, gI_sJ, gI_sL, gI_sQ, gL_sI, gL_sQ, gL_sJ, gQ_sI, gQ_sL, gQ_sJ, gN_sI, gN_sL, gN_sQ, gN_sJ, E_cV_a, E_cV_b, E_c_0, E_getI_0, E_getR_0, E_iald_0, E_jz_0, E_kk, E_ldI_a, E_ldI_b, E_ldR_a, E_ldR_b, E_rI_0, aL_23, am_cc, am_pop, am_rt, cC_0, cC_11, cC_23, cC_6, rR_104, rR_1200, rR_1205, kX11_place, ho1, i01, ↓s_hasWord, bI_z, not_true_eq_false, not_false_eq_true, hw1, hx, ↓s_refuse3]
      rw [eX12_place 60]
      simp only [am_run_s, bt, lf, am_in, am_ar, am_fit, am_ld, am_ct, Nat.reduceLT, Nat.reduceEqDiff, reduceIte, Nat.reduceAdd, Nat.reduceLeDiff, Nat.reduceSub, Bool.false_eq_true, if_true, if_false, ite_true, ite_false, List.length_cons, List.length_nil, Nat.zero_add, Nat.add_zero, and_true, true_and, true_or, or_true, and_self, Nat.le_refl, Nat.lt_irrefl, gI_sI, gL_sL, gQ_sQ, gI_sJ, gI_sL, gI_sQ, gL_sI, gL_sQ, gL_sJ, gQ_sI, gQ_sL, gQ_sJ, gN_sI, gN_sL, gN_sQ, gN_sJ, E_b2_0, E_cS_a, E_cS_b, E_cV_a, E_cV_b, E_c_0, E_getI_0, E_getR_0, E_i2l_0, E_iald_0, E_jmp_0, E_jz_0, E_kk, E_ldI_a, E_ldI_b, E_ldR_a, E_ldR_b, E_rI_0, aL_59, am_cc, am_pop, am_rt, cC_12, cC_59, rR_1360, kX12_place, ho, i01, ↓s_isIn0, bI_z, not_true_eq_false, not_false_eq_true, hw2, gN_sI, gI_sI, Nat.reduceEqDiff, reduceIte, hx', ↓s_no3]
      exact ⟨⟨_, rfl, rfl⟩, h.refuse⟩
theorem api_row (x : Int32) : apiI 124 210 [.inl x] := by
  intro k σ hk h
  rw [eX11_row 60]
  rcases h.2.2.2.2.2.2.2.1.1 with ⟨g1, g2⟩ | ⟨r, h0, g1, g2, g3, g4⟩
  · simp only [am_run_s, bt, lf, am_in, am_ar, am_fit, am_ld, am_ct, Nat.reduceLT, Nat.reduceEqDiff, reduceIte, Nat.reduceAdd, Nat.reduceLeDiff, Nat.reduceSub, Bool.false_eq_true, if_true, if_false, ite_true, ite_false, List.length_cons, List.length_nil, Nat.zero_add, Nat.add_zero, and_true, true_and, true_or, or_true, and_self, Nat.le_refl, Nat.lt_irrefl, gI_sI, gL_sL, gQ_sQ, gI_sJ, gI_sL, gI_sQ, gL_sI, gL_sQ, gL_sJ, gQ_sI, gQ_sL, gQ_sJ, gN_sI, gN_sL, gN_sQ, gN_sJ, E_bald_0, E_cV_a, E_cV_b, E_c_0, E_getI_0, E_getR_0, E_jl_0, E_jn_0, E_jz_0, E_kk, E_ldI_a, E_ldI_b, E_ldR_a, E_ldR_b, E_rI_0, aL_80, am_cc, am_pop, am_rt, cC_11, cC_7, cC_80, rR_1206, rR_800, kX11_row, g1, ↓s_refuse2]
    rw [eX12_row 60]
    have : ((-1 : Int32) < 0) = True := by decide
    simp only [am_run_s, bt, lf, am_in, am_ar, am_fit, am_ld, am_ct, Nat.reduceLT, Nat.reduceEqDiff, reduceIte, Nat.reduceAdd, Nat.reduceLeDiff, Nat.reduceSub, Bool.false_eq_true, if_true, if_false, ite_true, ite_false, List.length_cons, List.length_nil, Nat.zero_add, Nat.add_zero, and_true, true_and, true_or, or_true, and_self, Nat.le_refl, Nat.lt_irrefl, gI_sI, gL_sL, gQ_sQ, gI_sJ, gI_sL, gI_sQ, gL_sI, gL_sQ, gL_sJ, gQ_sI, gQ_sL, gQ_sJ, gN_sI, gN_sL, gN_sQ, gN_sJ, E_b2_0, E_cS_a, E_cS_b, E_cV_a, E_cV_b, E_c_0, E_getI_0, E_getR_0, E_i2l_0, E_iald_0, E_jmp_0, E_jn_0, E_jz_0, E_kk, E_ldI_a, E_ldI_b, E_ldR_a, E_ldR_b, E_rI_0, aL_61, am_cc, am_pop, am_rt, cC_12, cC_61, rR_1364, kX12_row, g2, this, ↓s_no2, gN_sI, gI_sI, Nat.reduceEqDiff, reduceIte]
    exact ⟨⟨_, rfl, rfl⟩, h.refuse⟩
  · have gr := nI_f (show r < 2147483648 by omega)
    rcases ix' x (n := r) (by omega) with ⟨j, hj, rfl⟩ | ⟨hx, hx'⟩
    · have h1 := nI_f (j := j) (by omega)
      have h2 := nI_t hj (by omega)
      have h2' := nI_l1 hj (by omega)
      have h3 : vp_in (nI j) 8 := vp_in_nI (by omega) (by omega)
      have h4 : (nI j).toNatClampNeg = j := nI_clamp (by omega)
      simp only [am_run_s, bt, lf, am_in, am_ar, am_fit, am_ld, am_ct, Nat.reduceLT, Nat.reduceEqDiff, reduceIte, Nat.reduceAdd, Nat.reduceLeDiff, Nat.reduceSub, Bool.false_eq_true, if_true, if_false, ite_true, ite_false, List.length_cons, List.length_nil, Nat.zero_add, Nat.add_zero, and_true, true_and, true_or, or_true, and_self, Nat.le_refl, Nat.lt_irrefl, gI_sI, gL_sL, gQ_sQ, gI_sJ, gI_sL, gI_sQ, gL_sI, gL_sQ, gL_sJ, gQ_sI, gQ_sL, gQ_sJ, gN_sI, gN_sL, gN_sQ, gN_sJ, E_bald_0, E_cV_a, E_cV_b, E_c_0, E_getI_0, E_getR_0, E_jl_0, E_jn_0, E_jz_0, E_kk, E_ldI_a, E_ldI_b, E_ldR_a, E_ldR_b, E_rI_0, aL_80, am_cc, am_pop, am_rt, cC_11, cC_7, cC_80, rR_1206, rR_800, kX11_row, g1, i01, g2, h1, h2, h3, h4]
      rw [eX12_row 60]
      simp only [am_run_s, bt, lf, am_in, am_ar, am_fit, am_ld, am_ct, Nat.reduceLT, Nat.reduceEqDiff, reduceIte, Nat.reduceAdd, Nat.reduceLeDiff, Nat.reduceSub, Bool.false_eq_true, if_true, if_false, ite_true, ite_false, List.length_cons, List.length_nil, Nat.zero_add, Nat.add_zero, and_true, true_and, true_or, or_true, and_self, Nat.le_refl, Nat.lt_irrefl, gI_sI, gL_sL, gQ_sQ, gI_sJ, gI_sL, gI_sQ, gL_sI, gL_sQ, gL_sJ, gQ_sI, gQ_sL, gQ_sJ, gN_sI, gN_sL, gN_sQ, gN_sJ, E_b2_0, E_cS_a, E_cS_b, E_cV_a, E_cV_b, E_c_0, E_getI_0, E_getR_0, E_i2l_0, E_iald_0, E_jmp_0, E_jn_0, E_jz_0, E_kk, E_ldI_a, E_ldI_b, E_ldR_a, E_ldR_b, E_rI_0, aL_61, am_cc, am_pop, am_rt, cC_12, cC_61, rR_1364, kX12_row, g3, gr, ↓s_isIn0, bI_z, not_true_eq_false, not_false_eq_true, h1, h2', h3, h4]
      exact ⟨⟨_, rfl, by rw [g4 j hj]⟩, h.up⟩
    · have hq : x < 0 ∨ ¬ x < nI r := by
        by_cases q : x < 0
        · exact Or.inl q
        · exact Or.inr (fun z => hx ⟨q, z⟩)
      rcases hq with q | q
      · simp only [am_run_s, bt, lf, am_in, am_ar, am_fit, am_ld, am_ct, Nat.reduceLT, Nat.reduceEqDiff, reduceIte, Nat.reduceAdd, Nat.reduceLeDiff, Nat.reduceSub, Bool.false_eq_true, if_true, if_false, ite_true, ite_false, List.length_cons, List.length_nil, Nat.zero_add, Nat.add_zero, and_true, true_and, true_or, or_true, and_self, Nat.le_refl, Nat.lt_irrefl, gI_sI, gL_sL, gQ_sQ, gI_sJ, gI_sL, gI_sQ, gL_sI, gL_sQ, gL_sJ, gQ_sI, gQ_sL, gQ_sJ, gN_sI, gN_sL, gN_sQ, gN_sJ, E_bald_0, E_cV_a, E_cV_b, E_c_0, E_getI_0, E_getR_0, E_jl_0, E_jn_0, E_jz_0, E_kk, E_ldI_a, E_ldI_b, E_ldR_a, E_ldR_b, E_rI_0, aL_80, am_cc, am_pop, am_rt, cC_11, cC_7, cC_80, rR_1206, rR_800, kX11_row, g1, i01, g2, q, ↓s_refuse3]
        rw [eX12_row 60]
        simp only [am_run_s, bt, lf, am_in, am_ar, am_fit, am_ld, am_ct, Nat.reduceLT, Nat.reduceEqDiff, reduceIte, Nat.reduceAdd, Nat.reduceLeDiff, Nat.reduceSub, Bool.false_eq_true, if_true, if_false, ite_true, ite_false, List.length_cons, List.length_nil, Nat.zero_add, Nat.add_zero, and_true, true_and, true_or, or_true, and_self, Nat.le_refl, Nat.lt_irrefl, gI_sI, gL_sL, gQ_sQ, gI_sJ, gI_sL, gI_sQ, gL_sI, gL_sQ, gL_sJ, gQ_sI, gQ_sL, gQ_sJ, gN_sI, gN_sL, gN_sQ, gN_sJ, E_b2_0, E_cS_a, E_cS_b, E_cV_a, E_cV_b, E_c_0, E_getI_0, E_getR_0, E_i2l_0, E_iald_0, E_jmp_0, E_jn_0, E_jz_0, E_kk, E_ldI_a, E_ldI_b, E_ldR_a, E_ldR_b, E_rI_0, aL_61, am_cc, am_pop, am_rt, cC_12, cC_61, rR_1364, kX12_row, g3, gr, ↓s_isIn0, bI_z, not_true_eq_false, not_false_eq_true, gN_sI, gI_sI, Nat.reduceEqDiff, reduceIte, hx', ↓s_no3]
        exact ⟨⟨_, rfl, rfl⟩, h.refuse⟩
      · by_cases q0 : x < 0
        · simp only [am_run_s, bt, lf, am_in, am_ar, am_fit, am_ld, am_ct, Nat.reduceLT, Nat.reduceEqDiff, reduceIte, Nat.reduceAdd, Nat.reduceLeDiff, Nat.reduceSub, Bool.false_eq_true, if_true, if_false, ite_true, ite_false, List.length_cons, List.length_nil, Nat.zero_add, Nat.add_zero, and_true, true_and, true_or, or_true, and_self, Nat.le_refl, Nat.lt_irrefl, gI_sI, gL_sL, gQ_sQ, gI_sJ, gI_sL, gI_sQ, gL_sI, gL_sQ, gL_sJ, gQ_sI, gQ_sL, gQ_sJ, gN_sI, gN_sL, gN_sQ, gN_sJ, E_bald_0, E_cV_a, E_cV_b, E_c_0, E_getI_0, E_getR_0, E_jl_0, E_jn_0, E_jz_0, E_kk, E_ldI_a, E_ldI_b, E_ldR_a, E_ldR_b, E_rI_0, aL_80, am_cc, am_pop, am_rt, cC_11, cC_7, cC_80, rR_1206, rR_800, kX11_row, g1, i01, g2, q0, ↓s_refuse3]
          rw [eX12_row 60]
          simp only [am_run_s, bt, lf, am_in, am_ar, am_fit, am_ld, am_ct, Nat.reduceLT, Nat.reduceEqDiff, reduceIte, Nat.reduceAdd, Nat.reduceLeDiff, Nat.reduceSub, Bool.false_eq_true, if_true, if_false, ite_true, ite_false, List.length_cons, List.length_nil, Nat.zero_add, Nat.add_zero, and_true, true_and, true_or, or_true, and_self, Nat.le_refl, Nat.lt_irrefl, gI_sI, gL_sL, gQ_sQ, gI_sJ, gI_sL, gI_sQ, gL_sI, gL_sQ, gL_sJ, gQ_sI, gQ_sL, gQ_sJ, gN_sI, gN_sL, gN_sQ, gN_sJ, E_b2_0, E_cS_a, E_cS_b, E_cV_a, E_cV_b, E_c_0, E_getI_0, E_getR_0, E_i2l_0, E_iald_0, E_jmp_0, E_jn_0, E_jz_0, E_kk, E_ldI_a, E_ldI_b, E_ldR_a, E_ldR_b, E_rI_0, aL_61, am_cc, am_pop, am_rt, cC_12, cC_61, rR_1364, kX12_row, g3, gr, ↓s_isIn0, bI_z, not_true_eq_false, not_false_eq_true, gN_sI, gI_sI, Nat.reduceEqDiff, reduceIte, hx', ↓s_no3]
          exact ⟨⟨_, rfl, rfl⟩, h.refuse⟩
        · simp only [am_run_s, bt, lf, am_in, am_ar, am_fit, am_ld, am_ct, Nat.reduceLT, Nat.reduceEqDiff, reduceIte, Nat.reduceAdd, Nat.reduceLeDiff, Nat.reduceSub, Bool.false_eq_true, if_true, if_false, ite_true, ite_false, List.length_cons, List.length_nil, Nat.zero_add, Nat.add_zero, and_true, true_and, true_or, or_true, and_self, Nat.le_refl, Nat.lt_irrefl, gI_sI, gL_sL, gQ_sQ, gI_sJ, gI_sL, gI_sQ, gL_sI, gL_sQ, gL_sJ, gQ_sI, gQ_sL, gQ_sJ, gN_sI, gN_sL, gN_sQ, gN_sJ, E_bald_0, E_cV_a, E_cV_b, E_c_0, E_getI_0, E_getR_0, E_jl_0, E_jn_0, E_jz_0, E_kk, E_ldI_a, E_ldI_b, E_ldR_a, E_ldR_b, E_rI_0, aL_80, am_cc, am_pop, am_rt, cC_11, cC_7, cC_80, rR_1206, rR_800, kX11_row, g1, i01, g2, q0, q, ↓s_refuse3]
          rw [eX12_row 60]
          simp only [am_run_s, bt, lf, am_in, am_ar, am_fit, am_ld, am_ct, Nat.reduceLT, Nat.reduceEqDiff, reduceIte, Nat.reduceAdd, Nat.reduceLeDiff, Nat.reduceSub, Bool.false_eq_true, if_true, if_false, ite_true, ite_false, List.length_cons, List.length_nil, Nat.zero_add, Nat.add_zero, and_true, true_and, true_or, or_true, and_self, Nat.le_refl, Nat.lt_irrefl, gI_sI, gL_sL, gQ_sQ, gI_sJ, gI_sL, gI_sQ, gL_sI, gL_sQ, gL_sJ, gQ_sI, gQ_sL, gQ_sJ, gN_sI, gN_sL, gN_sQ, gN_sJ, E_b2_0, E_cS_a, E_cS_b, E_cV_a, E_cV_b, E_c_0, E_getI_0, E_getR_0, E_i2l_0, E_iald_0, E_jmp_0, E_jn_0, E_jz_0, E_kk, E_ldI_a, E_ldI_b, E_ldR_a, E_ldR_b, E_rI_0, aL_61, am_cc, am_pop, am_rt, cC_12, cC_61, rR_1364, kX12_row, g3, gr, ↓s_isIn0, bI_z, not_true_eq_false, not_false_eq_true, gN_sI, gI_sI, Nat.reduceEqDiff, reduceIte, hx', ↓s_no3]
          exact ⟨⟨_, rfl, rfl⟩, h.refuse⟩

theorem api_told (w : Int32) : apiI 107 173 [.inl w] := by
  intro k σ hk h
  have hr := h.2.2.2.2.1
  rw [eX11_told 60]
  by_cases hb : ¬ w < 0 ∧ ¬ 4 < w
  · rcases hr.2.1 with g | g
    · have g1 : gI σ 601 0 = 0 := by rw [hr.1, g]
      simp only [am_run_s, bt, lf, am_in, am_ar, am_fit, am_ld, am_ct, Nat.reduceLT, Nat.reduceEqDiff, reduceIte, Nat.reduceAdd, Nat.reduceLeDiff, Nat.reduceSub, Bool.false_eq_true, if_true, if_false, ite_true, ite_false, List.length_cons, List.length_nil, Nat.zero_add, Nat.add_zero, and_true, true_and, true_or, or_true, and_self, Nat.le_refl, Nat.lt_irrefl, gI_sI, gL_sL, gQ_sQ, gI_sJ, gI_sL, gI_sQ, gL_sI, gL_sQ, gL_sJ, gQ_sI, gQ_sL, gQ_sJ, gN_sI, gN_sL, gN_sQ, gN_sJ, E_cS_a, E_cS_b, E_cV_a, E_cV_b, E_c_0, E_getI_0, E_getR_0, E_jz_0, E_kk, E_ldI_a, E_ldI_b, E_ldR_a, E_ldR_b, E_rI_0, am_cc, am_pop, am_rt, cC_11, cC_5, rR_1203, kX11_told, ↓s_isWithin, bI_z, not_true_eq_false, not_false_eq_true, hb, g1, ↓s_refuse2]
      rw [eX12_told 60]
      simp only [am_run_s, bt, lf, am_in, am_ar, am_fit, am_ld, am_ct, Nat.reduceLT, Nat.reduceEqDiff, reduceIte, Nat.reduceAdd, Nat.reduceLeDiff, Nat.reduceSub, Bool.false_eq_true, if_true, if_false, ite_true, ite_false, List.length_cons, List.length_nil, Nat.zero_add, Nat.add_zero, and_true, true_and, true_or, or_true, and_self, Nat.le_refl, Nat.lt_irrefl, gI_sI, gL_sL, gQ_sQ, gI_sJ, gI_sL, gI_sQ, gL_sI, gL_sQ, gL_sJ, gQ_sI, gQ_sL, gQ_sJ, gN_sI, gN_sL, gN_sQ, gN_sJ, E_cS_a, E_cS_b, E_cV_a, E_cV_b, E_c_0, E_getI_0, E_i2l_0, E_je_0, E_jmp_0, E_jz_0, E_kk, E_ldI_a, E_ldI_b, E_ldR_a, E_ldR_b, E_rI_0, am_cc, am_pop, am_rt, cC_12, kX12_told, ↓s_isIn0_4, bI_z, not_true_eq_false, not_false_eq_true, hb, g, gN_sI, gI_sI, Nat.reduceEqDiff, reduceIte, ↓s_no2]
      exact ⟨⟨_, rfl, rfl⟩, h.refuse⟩
    · have g1 : gI σ 601 0 = 1 := by rw [hr.1, g]
      obtain ⟨q0, q1, q2, q3, q4⟩ := hr.2.2.2 g
      simp only [am_run_s, bt, lf, am_in, am_ar, am_fit, am_ld, am_ct, Nat.reduceLT, Nat.reduceEqDiff, reduceIte, Nat.reduceAdd, Nat.reduceLeDiff, Nat.reduceSub, Bool.false_eq_true, if_true, if_false, ite_true, ite_false, List.length_cons, List.length_nil, Nat.zero_add, Nat.add_zero, and_true, true_and, true_or, or_true, and_self, Nat.le_refl, Nat.lt_irrefl, gI_sI, gL_sL, gQ_sQ, gI_sJ, gI_sL, gI_sQ, gL_sI, gL_sQ, gL_sJ, gQ_sI, gQ_sL, gQ_sJ, gN_sI, gN_sL, gN_sQ, gN_sJ, E_cS_a, E_cS_b, E_cV_a, E_cV_b, E_c_0, E_getI_0, E_getR_0, E_jz_0, E_kk, E_ldI_a, E_ldI_b, E_ldR_a, E_ldR_b, E_rI_0, am_cc, am_pop, am_rt, cC_11, cC_5, rR_1203, kX11_told, ↓s_isWithin, bI_z, not_true_eq_false, not_false_eq_true, hb, g1, i01]
      rw [eX5_answer 60]
      simp only [am_run_s, bt, lf, am_in, am_ar, am_fit, am_ld, am_ct, Nat.reduceLT, Nat.reduceEqDiff, reduceIte, Nat.reduceAdd, Nat.reduceLeDiff, Nat.reduceSub, Bool.false_eq_true, if_true, if_false, ite_true, ite_false, List.length_cons, List.length_nil, Nat.zero_add, Nat.add_zero, and_true, true_and, true_or, or_true, and_self, Nat.le_refl, Nat.lt_irrefl, gI_sI, gL_sL, gQ_sQ, gI_sJ, gI_sL, gI_sQ, gL_sI, gL_sQ, gL_sJ, gQ_sI, gQ_sL, gQ_sJ, gN_sI, gN_sL, gN_sQ, gN_sJ, E_getI_0, E_ldI_a, E_ldI_b, E_ldR_a, E_ldR_b, E_rI_0, E_sw_0, E_sw_c, E_sw_n, cC_5, kX5_answer, E_kk, am_rt, am_run_s, kX11_told, E_rI_0]
      obtain ⟨n, hn, rfl⟩ : ∃ n : Nat, n < 5 ∧ w = nI n := by
        rcases pk_ix w (n := 5) (by omega) with q | q | ⟨n, q1, q2⟩
        · exact absurd q hb.1
        · exact absurd (by
            have e : nI 5 = 5 := by decide
            rw [e] at q
            have ea : (4 : Int32).toInt = 4 := by decide
            have eb : (5 : Int32).toInt = 5 := by decide
            rw [Int32.le_iff_toInt_le, eb] at q
            rw [Int32.lt_iff_toInt_lt, ea]; omega) hb.2
        · exact ⟨n, q1, q2⟩
      have e0 : nI 0 = 0 := by decide
      have e1 : nI 1 = 1 := by decide
      have e2 : nI 2 = 2 := by decide
      have e3 : nI 3 = 3 := by decide
      have e4 : nI 4 = 4 := by decide
      rcases (show n = 0 ∨ n = 1 ∨ n = 2 ∨ n = 3 ∨ n = 4 by omega) with rfl | rfl | rfl | rfl | rfl
      · rw [e0]; simp (decide := true) only [if_true, if_false]
        rw [eX12_told 60]
        simp only [am_run_s, bt, lf, am_in, am_ar, am_fit, am_ld, am_ct, Nat.reduceLT, Nat.reduceEqDiff, reduceIte, Nat.reduceAdd, Nat.reduceLeDiff, Nat.reduceSub, Bool.false_eq_true, if_true, if_false, ite_true, ite_false, List.length_cons, List.length_nil, Nat.zero_add, Nat.add_zero, and_true, true_and, true_or, or_true, and_self, Nat.le_refl, Nat.lt_irrefl, gI_sI, gL_sL, gQ_sQ, gI_sJ, gI_sL, gI_sQ, gL_sI, gL_sQ, gL_sJ, gQ_sI, gQ_sL, gQ_sJ, gN_sI, gN_sL, gN_sQ, gN_sJ, E_cS_a, E_cS_b, E_cV_a, E_cV_b, E_c_0, E_getI_0, E_i2l_0, E_je_0, E_jmp_0, E_jz_0, E_kk, E_ldI_a, E_ldI_b, E_ldR_a, E_ldR_b, E_rI_0, am_cc, am_pop, am_rt, cC_12, kX12_told, ↓s_isIn0_4, bI_z, not_true_eq_false, not_false_eq_true, (by decide : ¬ (0 : Int32) < 0 ∧ ¬ 4 < (0 : Int32)), g, i01]
        exact ⟨⟨_, rfl, by rw [q0]⟩, h.up⟩
      · rw [e1]; simp (decide := true) only [if_true, if_false]
        rw [eX12_told 60]
        simp (decide := true) only [am_run_s, bt, lf, am_in, am_ar, am_fit, am_ld, am_ct, Nat.reduceLT, Nat.reduceEqDiff, reduceIte, Nat.reduceAdd, Nat.reduceLeDiff, Nat.reduceSub, Bool.false_eq_true, if_true, if_false, ite_true, ite_false, List.length_cons, List.length_nil, Nat.zero_add, Nat.add_zero, and_true, true_and, true_or, or_true, and_self, Nat.le_refl, Nat.lt_irrefl, gI_sI, gL_sL, gQ_sQ, gI_sJ, gI_sL, gI_sQ, gL_sI, gL_sQ, gL_sJ, gQ_sI, gQ_sL, gQ_sJ, gN_sI, gN_sL, gN_sQ, gN_sJ, E_cS_a, E_cS_b, E_cV_a, E_cV_b, E_c_0, E_getI_0, E_i2l_0, E_je_0, E_jmp_0, E_jz_0, E_kk, E_ldI_a, E_ldI_b, E_ldR_a, E_ldR_b, E_rI_0, am_cc, am_pop, am_rt, cC_12, kX12_told, ↓s_isIn0_4, bI_z, not_true_eq_false, not_false_eq_true, (by decide : ¬ (1 : Int32) < 0 ∧ ¬ 4 < (1 : Int32)), g, i01]
        exact ⟨⟨_, rfl, by rw [q1]⟩, h.up⟩
      · rw [e2]; simp (decide := true) only [if_true, if_false]
        rw [eX12_told 60]
        simp (decide := true) only [am_run_s, bt, lf, am_in, am_ar, am_fit, am_ld, am_ct, Nat.reduceLT, Nat.reduceEqDiff, reduceIte, Nat.reduceAdd, Nat.reduceLeDiff, Nat.reduceSub, Bool.false_eq_true, if_true, if_false, ite_true, ite_false, List.length_cons, List.length_nil, Nat.zero_add, Nat.add_zero, and_true, true_and, true_or, or_true, and_self, Nat.le_refl, Nat.lt_irrefl, gI_sI, gL_sL, gQ_sQ, gI_sJ, gI_sL, gI_sQ, gL_sI, gL_sQ, gL_sJ, gQ_sI, gQ_sL, gQ_sJ, gN_sI, gN_sL, gN_sQ, gN_sJ, E_cS_a, E_cS_b, E_cV_a, E_cV_b, E_c_0, E_getI_0, E_i2l_0, E_je_0, E_jmp_0, E_jz_0, E_kk, E_ldI_a, E_ldI_b, E_ldR_a, E_ldR_b, E_rI_0, am_cc, am_pop, am_rt, cC_12, kX12_told, ↓s_isIn0_4, bI_z, not_true_eq_false, not_false_eq_true, (by decide : ¬ (2 : Int32) < 0 ∧ ¬ 4 < (2 : Int32)), g, i01]
        exact ⟨⟨_, rfl, by rw [q2]⟩, h.up⟩
      · rw [e3]; simp (decide := true) only [if_true, if_false]
        rw [eX12_told 60]
        simp (decide := true) only [am_run_s, bt, lf, am_in, am_ar, am_fit, am_ld, am_ct, Nat.reduceLT, Nat.reduceEqDiff, reduceIte, Nat.reduceAdd, Nat.reduceLeDiff, Nat.reduceSub, Bool.false_eq_true, if_true, if_false, ite_true, ite_false, List.length_cons, List.length_nil, Nat.zero_add, Nat.add_zero, and_true, true_and, true_or, or_true, and_self, Nat.le_refl, Nat.lt_irrefl, gI_sI, gL_sL, gQ_sQ, gI_sJ, gI_sL, gI_sQ, gL_sI, gL_sQ, gL_sJ, gQ_sI, gQ_sL, gQ_sJ, gN_sI, gN_sL, gN_sQ, gN_sJ, E_cS_a, E_cS_b, E_cV_a, E_cV_b, E_c_0, E_getI_0, E_i2l_0, E_je_0, E_jmp_0, E_jz_0, E_kk, E_ldI_a, E_ldI_b, E_ldR_a, E_ldR_b, E_rI_0, am_cc, am_pop, am_rt, cC_12, kX12_told, ↓s_isIn0_4, bI_z, not_true_eq_false, not_false_eq_true, (by decide : ¬ (3 : Int32) < 0 ∧ ¬ 4 < (3 : Int32)), g, i01]
        exact ⟨⟨_, rfl, by rw [q3]⟩, h.up⟩
      · rw [e4]; simp (decide := true) only [if_true, if_false]
        rw [eX12_told 60]
        simp (decide := true) only [am_run_s, bt, lf, am_in, am_ar, am_fit, am_ld, am_ct, Nat.reduceLT, Nat.reduceEqDiff, reduceIte, Nat.reduceAdd, Nat.reduceLeDiff, Nat.reduceSub, Bool.false_eq_true, if_true, if_false, ite_true, ite_false, List.length_cons, List.length_nil, Nat.zero_add, Nat.add_zero, and_true, true_and, true_or, or_true, and_self, Nat.le_refl, Nat.lt_irrefl, gI_sI, gL_sL, gQ_sQ, gI_sJ, gI_sL, gI_sQ, gL_sI, gL_sQ, gL_sJ, gQ_sI, gQ_sL, gQ_sJ, gN_sI, gN_sL, gN_sQ, gN_sJ, E_cS_a, E_cS_b, E_cV_a, E_cV_b, E_c_0, E_getI_0, E_i2l_0, E_je_0, E_jmp_0, E_jz_0, E_kk, E_ldI_a, E_ldI_b, E_ldR_a, E_ldR_b, E_rI_0, am_cc, am_pop, am_rt, cC_12, kX12_told, ↓s_isIn0_4, bI_z, not_true_eq_false, not_false_eq_true, (by decide : ¬ (4 : Int32) < 0 ∧ ¬ 4 < (4 : Int32)), g, i01]
        exact ⟨⟨_, rfl, by rw [q4]⟩, h.up⟩
  · simp only [am_run_s, bt, lf, am_in, am_ar, am_fit, am_ld, am_ct, Nat.reduceLT, Nat.reduceEqDiff, reduceIte, Nat.reduceAdd, Nat.reduceLeDiff, Nat.reduceSub, Bool.false_eq_true, if_true, if_false, ite_true, ite_false, List.length_cons, List.length_nil, Nat.zero_add, Nat.add_zero, and_true, true_and, true_or, or_true, and_self, Nat.le_refl, Nat.lt_irrefl, gI_sI, gL_sL, gQ_sQ, gI_sJ, gI_sL, gI_sQ, gL_sI, gL_sQ, gL_sJ, gQ_sI, gQ_sL, gQ_sJ, gN_sI, gN_sL, gN_sQ, gN_sJ, E_cS_a, E_cS_b, E_cV_a, E_cV_b, E_c_0, E_getI_0, E_getR_0, E_jz_0, E_kk, E_ldI_a, E_ldI_b, E_ldR_a, E_ldR_b, E_rI_0, am_cc, am_pop, am_rt, cC_11, cC_5, rR_1203, kX11_told, ↓s_isWithin, bI_z, not_true_eq_false, not_false_eq_true, hb, ↓s_refuse7]
    rw [eX12_told 60]
    simp only [am_run_s, bt, lf, am_in, am_ar, am_fit, am_ld, am_ct, Nat.reduceLT, Nat.reduceEqDiff, reduceIte, Nat.reduceAdd, Nat.reduceLeDiff, Nat.reduceSub, Bool.false_eq_true, if_true, if_false, ite_true, ite_false, List.length_cons, List.length_nil, Nat.zero_add, Nat.add_zero, and_true, true_and, true_or, or_true, and_self, Nat.le_refl, Nat.lt_irrefl, gI_sI, gL_sL, gQ_sQ, gI_sJ, gI_sL, gI_sQ, gL_sI, gL_sQ, gL_sJ, gQ_sI, gQ_sL, gQ_sJ, gN_sI, gN_sL, gN_sQ, gN_sJ, E_cS_a, E_cS_b, E_cV_a, E_cV_b, E_c_0, E_getI_0, E_i2l_0, E_je_0, E_jmp_0, E_jz_0, E_kk, E_ldI_a, E_ldI_b, E_ldR_a, E_ldR_b, E_rI_0, am_cc, am_pop, am_rt, cC_12, kX12_told, ↓s_isIn0_4, bI_z, not_true_eq_false, not_false_eq_true, hb, ↓s_no7]
    exact ⟨⟨_, rfl, rfl⟩, h.refuse⟩

