/-! ===== the run: the reference: heard, whole ===== -/
def hd_a (m : HS) (w : Nat) : HS := sI (sI m 1348 0 (gI m 1348 0 + 1)) 49 w (gI m 49 w + 1)
def hd_b (m : HS) (w : Nat) (tm : Int32) : HS := if gI m 51 w < tm then sI m 51 w tm else m
def hd_c (m : HS) : HS := sI (sI m 1344 0 (-1)) 1343 0 (gI m 1342 0 + 4)
def heardM (m : HS) (w n nw : Nat) : HS := hd_c (haN w (hcN (hd_b (hd_a (nts m (gI m 1342 0 - gI m 1347 0)) w) w (gI m 1342 0 - gI m 1347 0)) n) nw)
theorem r_heard {m : HS} {w n nw : Nat} (hu : gI m 1344 0 = nI w) (hw : w < 24) (hn : gI m 1313 0 = nI n) (h10 : n ≤ 10) (h24 : nw ≤ 24) (hnw : gI m 1314 0 = nI nw) : Rg 187 [] m (heardM m w n nw) := by
  intro σ Q hm hQ
  have h5 : vp_in (nI w) 24 := vp_in_nI (by omega) (by omega)
  have h6 : (nI w).toNatClampNeg = w := nI_clamp (by omega)
  have c0 : gI σ 1344 0 = nI w := by rw [hm.gi rfl]; exact hu
  have c1 : gI σ 1342 0 = gI m 1342 0 := hm.gi rfl
  have c2 : gI σ 1347 0 = gI m 1347 0 := hm.gi rfl
  unfold heardM at hQ
  rw [eX12_isHeard 12]
  simp only [am_run_s, bt, lf, am_in, am_ar, am_fit, am_ld, am_ct, Nat.reduceLT, Nat.reduceEqDiff, reduceIte, Nat.reduceAdd, Nat.reduceLeDiff, Nat.reduceSub, Bool.false_eq_true, if_true, if_false, ite_true, ite_false, List.length_cons, List.length_nil, Nat.zero_add, Nat.add_zero, and_true, true_and, true_or, or_true, and_self, Nat.le_refl, Nat.lt_irrefl, gI_sI, gL_sL, gQ_sQ, gI_sJ, gI_sL, gI_sQ, gL_sI, gL_sQ, gL_sJ, gQ_sI, gQ_sL, gQ_sJ, gN_sI, gN_sL, gN_sQ, gN_sJ, E_b2_0, E_cV_a, E_cV_b, E_c_0, E_dup2_0, E_dup_0, E_dup_1, E_getI_0, E_getR_0, E_iald_0, E_iast_0, E_inc_a, E_inc_b, E_je_0, E_jg_0, E_jl_0, E_jmp_0, E_jp_0, E_jz_0, E_kk, E_ldI_a, E_ldI_b, E_ldR_a, E_ldR_b, E_putI_0, E_rV_0, E_stI_0, aL_34, aL_39, aL_42, aL_47, aL_49, aL_51, am_cc, am_nl, am_ok, am_pop, am_rt, am_set, cC_12, cC_34, cC_39, cC_42, cC_47, cC_49, cC_51, rR_1301, rR_1306, rR_1309, rR_1318, rR_1320, rR_1322, kX12_isHeard, kX12_isHeard_0, kX12_isHeard_1, kX12_isHeard_2, am_run_z, c0, c1, c2]
  generalize gI m 1342 0 - gI m 1347 0 = tm at hQ ⊢
  have fn := nts_f m tm
  refine r_notes m tm σ _ hm (fun σ1 m1 f1 => ?_)
  simp only [am_run_s, bt, lf, am_in, am_ar, am_fit, am_ld, am_ct, Nat.reduceLT, Nat.reduceEqDiff, reduceIte, Nat.reduceAdd, Nat.reduceLeDiff, Nat.reduceSub, Bool.false_eq_true, if_true, if_false, ite_true, ite_false, List.length_cons, List.length_nil, Nat.zero_add, Nat.add_zero, and_true, true_and, true_or, or_true, and_self, Nat.le_refl, Nat.lt_irrefl, gI_sI, gL_sL, gQ_sQ, gI_sJ, gI_sL, gI_sQ, gL_sI, gL_sQ, gL_sJ, gQ_sI, gQ_sL, gQ_sJ, gN_sI, gN_sL, gN_sQ, gN_sJ, E_b2_0, E_cV_a, E_cV_b, E_c_0, E_dup2_0, E_dup_0, E_dup_1, E_getI_0, E_getR_0, E_iald_0, E_iast_0, E_inc_a, E_inc_b, E_je_0, E_jg_0, E_jl_0, E_jmp_0, E_jp_0, E_jz_0, E_kk, E_ldI_a, E_ldI_b, E_ldR_a, E_ldR_b, E_putI_0, E_rV_0, E_stI_0, aL_34, aL_39, aL_42, aL_47, aL_49, aL_51, am_cc, am_nl, am_ok, am_pop, am_rt, am_set, cC_12, cC_34, cC_39, cC_42, cC_47, cC_49, cC_51, rR_1301, rR_1306, rR_1309, rR_1318, rR_1320, rR_1322, kX12_isHeard, kX12_isHeard_0, kX12_isHeard_1, kX12_isHeard_2, am_run_z]
  have n2 : gI (nts m tm) 1313 0 = nI n := by rw [fn.gi rfl]; exact hn
  have n3 : gI (nts m tm) 1314 0 = nI nw := by rw [fn.gi rfl]; exact hnw
  generalize nts m tm = ma at hQ m1 n2 n3
  have d2 : gI σ1 1348 0 = gI ma 1348 0 := m1.gi rfl
  have d3 : gI σ1 49 w = gI ma 49 w := m1.gi rfl
  rw [hX12_isHeard 13]
  simp only [am_run_s, bt, lf, am_in, am_ar, am_fit, am_ld, am_ct, Nat.reduceLT, Nat.reduceEqDiff, reduceIte, Nat.reduceAdd, Nat.reduceLeDiff, Nat.reduceSub, Bool.false_eq_true, if_true, if_false, ite_true, ite_false, List.length_cons, List.length_nil, Nat.zero_add, Nat.add_zero, and_true, true_and, true_or, or_true, and_self, Nat.le_refl, Nat.lt_irrefl, gI_sI, gL_sL, gQ_sQ, gI_sJ, gI_sL, gI_sQ, gL_sI, gL_sQ, gL_sJ, gQ_sI, gQ_sL, gQ_sJ, gN_sI, gN_sL, gN_sQ, gN_sJ, E_b2_0, E_cV_a, E_cV_b, E_c_0, E_dup2_0, E_dup_0, E_dup_1, E_getI_0, E_getR_0, E_iald_0, E_iast_0, E_inc_a, E_inc_b, E_je_0, E_jg_0, E_jl_0, E_jmp_0, E_jp_0, E_jz_0, E_kk, E_ldI_a, E_ldI_b, E_ldR_a, E_ldR_b, E_putI_0, E_rV_0, E_stI_0, aL_34, aL_39, aL_42, aL_47, aL_49, aL_51, am_cc, am_nl, am_ok, am_pop, am_rt, am_set, cC_12, cC_34, cC_39, cC_42, cC_47, cC_49, cC_51, rR_1301, rR_1306, rR_1309, rR_1318, rR_1320, rR_1322, kX12_isHeard, kX12_isHeard_0, kX12_isHeard_1, kX12_isHeard_2, am_run_z, h5, h6, d2, d3]
  have m2 : AgM (sI (sI σ1 1348 0 (gI ma 1348 0 + 1)) 49 w (gI ma 49 w + 1)) (hd_a ma w) := (m1.si _ _ _).si _ _ _
  have f2 : frm PMA σ (sI (sI σ1 1348 0 (gI ma 1348 0 + 1)) 49 w (gI ma 49 w + 1)) := (f1.si rfl).si rfl
  have n2b : gI (hd_a ma w) 1313 0 = nI n := n2
  have n3b : gI (hd_a ma w) 1314 0 = nI nw := n3
  generalize hd_a ma w = mb at hQ m2 n2b n3b
  generalize sI (sI σ1 1348 0 (gI ma 1348 0 + 1)) 49 w (gI ma 49 w + 1) = σ2 at m2 f2 ⊢
  have d4 : gI σ2 51 w = gI mb 51 w := m2.gi rfl
  -- the loops and the end, from a state that agrees with mc
  have rest : ∀ (mc σ3 : HS), hd_b mb w tm = mc → AgM σ3 mc → frm PMA σ σ3 → am_T (kX12_isHeard S1) MM Q 59 [some rM, some (.inl (nI w)), some (.inl tm), some (.inl (nI 0))] [] σ3 0 0 := by
    intro mc σ3 ec m3 f3
    rw [ec] at hQ
    have e1 : gI mc 1313 0 = nI n := by
      rw [← ec]; unfold hd_b; split <;> exact n2b
    have e3 : gI mc 1314 0 = nI nw := by
      rw [← ec]; unfold hd_b; split <;> exact n3b
    refine r_hcN e1 h10 n (Nat.le_refl _) σ3 Q m3 (fun σ4 m4 f4 => ?_)
    have g1 := hcN_f mc n
    have e4 : gI σ4 1313 0 = nI n := by rw [m4.gi rfl, g1.gi rfl]; exact e1
    have h0 : ¬ nI n < nI n := nI_nlt (by omega) (by omega)
    rw [hX12_isHeard 5]
    simp only [am_run_s, bt, lf, am_in, am_ar, am_fit, am_ld, am_ct, Nat.reduceLT, Nat.reduceEqDiff, reduceIte, Nat.reduceAdd, Nat.reduceLeDiff, Nat.reduceSub, Bool.false_eq_true, if_true, if_false, ite_true, ite_false, List.length_cons, List.length_nil, Nat.zero_add, Nat.add_zero, and_true, true_and, true_or, or_true, and_self, Nat.le_refl, Nat.lt_irrefl, gI_sI, gL_sL, gQ_sQ, gI_sJ, gI_sL, gI_sQ, gL_sI, gL_sQ, gL_sJ, gQ_sI, gQ_sL, gQ_sJ, gN_sI, gN_sL, gN_sQ, gN_sJ, E_b2_0, E_cV_a, E_cV_b, E_c_0, E_dup2_0, E_dup_0, E_dup_1, E_getI_0, E_getR_0, E_iald_0, E_iast_0, E_inc_a, E_inc_b, E_je_0, E_jg_0, E_jl_0, E_jmp_0, E_jp_0, E_jz_0, E_kk, E_ldI_a, E_ldI_b, E_ldR_a, E_ldR_b, E_putI_0, E_rV_0, E_stI_0, aL_34, aL_39, aL_42, aL_47, aL_49, aL_51, am_cc, am_nl, am_ok, am_pop, am_rt, am_set, cC_12, cC_34, cC_39, cC_42, cC_47, cC_49, cC_51, rR_1301, rR_1306, rR_1309, rR_1318, rR_1320, rR_1322, kX12_isHeard, kX12_isHeard_0, kX12_isHeard_1, kX12_isHeard_2, e4, h0]
    refine r_haN (by rw [g1.gi rfl]; exact e3) h24 nw (Nat.le_refl _) σ4 Q m4 (fun σ5 m5 f5 => ?_)
    have g2 := haN_f w (hcN mc n) nw
    have e5 : gI σ5 1314 0 = nI nw := by rw [m5.gi rfl, g2.gi rfl, g1.gi rfl]; exact e3
    have e6 : gI σ5 1342 0 = gI (haN w (hcN mc n) nw) 1342 0 := m5.gi rfl
    have h1 : ¬ nI nw < nI nw := nI_nlt (by omega) (by omega)
    rw [hX12_isHeard 13]
    simp only [am_run_s, bt, lf, am_in, am_ar, am_fit, am_ld, am_ct, Nat.reduceLT, Nat.reduceEqDiff, reduceIte, Nat.reduceAdd, Nat.reduceLeDiff, Nat.reduceSub, Bool.false_eq_true, if_true, if_false, ite_true, ite_false, List.length_cons, List.length_nil, Nat.zero_add, Nat.add_zero, and_true, true_and, true_or, or_true, and_self, Nat.le_refl, Nat.lt_irrefl, gI_sI, gL_sL, gQ_sQ, gI_sJ, gI_sL, gI_sQ, gL_sI, gL_sQ, gL_sJ, gQ_sI, gQ_sL, gQ_sJ, gN_sI, gN_sL, gN_sQ, gN_sJ, E_b2_0, E_cV_a, E_cV_b, E_c_0, E_dup2_0, E_dup_0, E_dup_1, E_getI_0, E_getR_0, E_iald_0, E_iast_0, E_inc_a, E_inc_b, E_je_0, E_jg_0, E_jl_0, E_jmp_0, E_jp_0, E_jz_0, E_kk, E_ldI_a, E_ldI_b, E_ldR_a, E_ldR_b, E_putI_0, E_rV_0, E_stI_0, aL_34, aL_39, aL_42, aL_47, aL_49, aL_51, am_cc, am_nl, am_ok, am_pop, am_rt, am_set, cC_12, cC_34, cC_39, cC_42, cC_47, cC_49, cC_51, rR_1301, rR_1306, rR_1309, rR_1318, rR_1320, rR_1322, kX12_isHeard, kX12_isHeard_0, kX12_isHeard_1, kX12_isHeard_2, e5, h1, e6]
    exact hQ _ ((m5.si _ _ _).si _ _ _) ((((f3.tr f4).tr f5).si rfl).si rfl)
  by_cases q : gI mb 51 w < tm
  · rw [hX12_isHeard 12]
    simp only [am_run_s, bt, lf, am_in, am_ar, am_fit, am_ld, am_ct, Nat.reduceLT, Nat.reduceEqDiff, reduceIte, Nat.reduceAdd, Nat.reduceLeDiff, Nat.reduceSub, Bool.false_eq_true, if_true, if_false, ite_true, ite_false, List.length_cons, List.length_nil, Nat.zero_add, Nat.add_zero, and_true, true_and, true_or, or_true, and_self, Nat.le_refl, Nat.lt_irrefl, gI_sI, gL_sL, gQ_sQ, gI_sJ, gI_sL, gI_sQ, gL_sI, gL_sQ, gL_sJ, gQ_sI, gQ_sL, gQ_sJ, gN_sI, gN_sL, gN_sQ, gN_sJ, E_b2_0, E_cV_a, E_cV_b, E_c_0, E_dup2_0, E_dup_0, E_dup_1, E_getI_0, E_getR_0, E_iald_0, E_iast_0, E_inc_a, E_inc_b, E_je_0, E_jg_0, E_jl_0, E_jmp_0, E_jp_0, E_jz_0, E_kk, E_ldI_a, E_ldI_b, E_ldR_a, E_ldR_b, E_putI_0, E_rV_0, E_stI_0, aL_34, aL_39, aL_42, aL_47, aL_49, aL_51, am_cc, am_nl, am_ok, am_pop, am_rt, am_set, cC_12, cC_34, cC_39, cC_42, cC_47, cC_49, cC_51, rR_1301, rR_1306, rR_1309, rR_1318, rR_1320, rR_1322, kX12_isHeard, kX12_isHeard_0, kX12_isHeard_1, kX12_isHeard_2, h5, h6, d4, q]
    exact rest _ _ (by unfold hd_b; rw [if_pos q]) (m2.si _ _ _) (f2.si rfl)
  · rw [hX12_isHeard 8]
    simp only [am_run_s, bt, lf, am_in, am_ar, am_fit, am_ld, am_ct, Nat.reduceLT, Nat.reduceEqDiff, reduceIte, Nat.reduceAdd, Nat.reduceLeDiff, Nat.reduceSub, Bool.false_eq_true, if_true, if_false, ite_true, ite_false, List.length_cons, List.length_nil, Nat.zero_add, Nat.add_zero, and_true, true_and, true_or, or_true, and_self, Nat.le_refl, Nat.lt_irrefl, gI_sI, gL_sL, gQ_sQ, gI_sJ, gI_sL, gI_sQ, gL_sI, gL_sQ, gL_sJ, gQ_sI, gQ_sL, gQ_sJ, gN_sI, gN_sL, gN_sQ, gN_sJ, E_b2_0, E_cV_a, E_cV_b, E_c_0, E_dup2_0, E_dup_0, E_dup_1, E_getI_0, E_getR_0, E_iald_0, E_iast_0, E_inc_a, E_inc_b, E_je_0, E_jg_0, E_jl_0, E_jmp_0, E_jp_0, E_jz_0, E_kk, E_ldI_a, E_ldI_b, E_ldR_a, E_ldR_b, E_putI_0, E_rV_0, E_stI_0, aL_34, aL_39, aL_42, aL_47, aL_49, aL_51, am_cc, am_nl, am_ok, am_pop, am_rt, am_set, cC_12, cC_34, cC_39, cC_42, cC_47, cC_49, cC_51, rR_1301, rR_1306, rR_1309, rR_1318, rR_1320, rR_1322, kX12_isHeard, kX12_isHeard_0, kX12_isHeard_1, kX12_isHeard_2, h5, h6, d4, q]
    exact rest _ _ (by unfold hd_b; rw [if_neg q]) m2 f2
