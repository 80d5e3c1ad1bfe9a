theorem tt_1 (a b c : Int32) (σ : HS) (Q : PO) : MM 128 [.inl a, .inl b, .inl c] σ Q ↔ False := by
  rw [eX11_isWithin 40]
  simp only [am_run_s, bt, lf, am_in, am_ar, am_fit, am_ld, am_ct, Nat.reduceLT, Nat.reduceEqDiff, reduceIte, Nat.reduceAdd, Nat.reduceLeDiff, Nat.reduceSub, Bool.false_eq_true, if_true, if_false, ite_true, ite_false, List.length_cons, List.length_nil, Nat.zero_add, Nat.add_zero, and_true, true_and, true_or, or_true, and_self, Nat.le_refl, Nat.lt_irrefl, gI_sI, gL_sL, gQ_sQ, gI_sJ, gI_sL, gI_sQ, gL_sI, gL_sQ, gL_sJ, gQ_sI, gQ_sL, gQ_sJ, gN_sI, gN_sL, gN_sQ, gN_sJ, E_c_0, E_jg_0, E_jl_0, E_jmp_0, E_ldI_a, E_ldI_b, E_rZ_0, kX11_isWithin]
  trace_state
  sorry
theorem tt_2 (x y : Int32) (σ : HS) (Q : PO) : MM 43 [.inr (.inr (some (5, 0)))] σ Q ↔ False := by
  rw [eX5_takePlain 200]
  simp only [am_run_s, bt, lf, am_in, am_ar, am_fit, am_ld, am_ct, Nat.reduceLT, Nat.reduceEqDiff, reduceIte, Nat.reduceAdd, Nat.reduceLeDiff, Nat.reduceSub, Bool.false_eq_true, if_true, if_false, ite_true, ite_false, List.length_cons, List.length_nil, Nat.zero_add, Nat.add_zero, and_true, true_and, true_or, or_true, and_self, Nat.le_refl, Nat.lt_irrefl, gI_sI, gL_sL, gQ_sQ, gI_sJ, gI_sL, gI_sQ, gL_sI, gL_sQ, gL_sJ, gQ_sI, gQ_sL, gQ_sJ, gN_sI, gN_sL, gN_sQ, gN_sJ, E_b2_0, E_cS_a, E_cS_b, E_cV_a, E_cV_b, E_c_0, E_dup_0, E_dup_1, E_getI_0, E_getR_0, E_iald_0, E_je_0, E_jmp_0, E_jz_0, E_kk, E_ldI_a, E_ldI_b, E_ldR_a, E_ldR_b, E_pop_0, E_pop_1, E_putI_0, E_rI_0, E_stI_0, aL_31, am_cc, am_nl, am_ok, am_pop, am_rt, am_set, cC_31, cC_5, cC_8, rR_600, rR_900, kX5_takePlain, kX5_takePlain_0, kX5_takePlain_1]
  trace_state
  sorry
theorem tt_5 (x y : Int32) (σ : HS) (Q : PO) : MM 91 [.inr (.inr (some (11, 0))), .inl x, .inl y] σ Q ↔ False := by
  rw [eX11_late 100]
  simp only [am_run_s, bt, lf, am_in, am_ar, am_fit, am_ld, am_ct, Nat.reduceLT, Nat.reduceEqDiff, reduceIte, Nat.reduceAdd, Nat.reduceLeDiff, Nat.reduceSub, Bool.false_eq_true, if_true, if_false, ite_true, ite_false, List.length_cons, List.length_nil, Nat.zero_add, Nat.add_zero, and_true, true_and, true_or, or_true, and_self, Nat.le_refl, Nat.lt_irrefl, gI_sI, gL_sL, gQ_sQ, gI_sJ, gI_sL, gI_sQ, gL_sI, gL_sQ, gL_sJ, gQ_sI, gQ_sL, gQ_sJ, gN_sI, gN_sL, gN_sQ, gN_sJ, E_aald_0, E_cS_a, E_cS_b, E_cV_a, E_cV_b, E_c_0, E_getI_0, E_getR_0, E_je_0, E_jz_0, E_kk, E_ldI_a, E_ldI_b, E_ldR_a, E_ldR_b, E_putI_0, E_rI_0, E_stI_0, E_stR_0, aL_91, am_cc, am_nl, am_ok, am_pop, am_rt, am_set, cC_0, cC_10, cC_11, cC_6, cC_9, cC_91, rQ_91, rR_1200, rR_1204, rR_1205, rR_701, sN_91, kX11_late, kX11_late_0, kX11_late_1]
  trace_state
  sorry
theorem tt_6 (x y : Int32) (σ : HS) (Q : PO) : MM 61 [.inr (.inr (some (9, 0))), .inl x] σ Q ↔ False := by
  rw [eX9_answer 100]
  simp only [am_run_s, bt, lf, am_in, am_ar, am_fit, am_ld, am_ct, Nat.reduceLT, Nat.reduceEqDiff, reduceIte, Nat.reduceAdd, Nat.reduceLeDiff, Nat.reduceSub, Bool.false_eq_true, if_true, if_false, ite_true, ite_false, List.length_cons, List.length_nil, Nat.zero_add, Nat.add_zero, and_true, true_and, true_or, or_true, and_self, Nat.le_refl, Nat.lt_irrefl, gI_sI, gL_sL, gQ_sQ, gI_sJ, gI_sL, gI_sQ, gL_sI, gL_sQ, gL_sJ, gQ_sI, gQ_sL, gQ_sJ, gN_sI, gN_sL, gN_sQ, gN_sJ, E_c_0, E_getI_0, E_getR_0, E_jmp_0, E_jnull_0, E_jnull_1, E_ldI_a, E_ldI_b, E_ldR_a, E_ldR_b, E_rI_0, E_sw_0, E_sw_c, E_sw_n, cC_10, cC_4, cC_6, cC_9, rQ_1008, rR_1000, rR_1002, kX9_answer]
  trace_state
  sorry
