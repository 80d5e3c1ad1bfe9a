/-! ===== load ===== -/
def ldS (σ : HS) : Nat → Int64
  | 0 => 0
  | n + 1 => ldS σ n + 1000000 * (cI (gI σ 40 n) (gI σ 38 n)).toInt64 / (gI σ 41 n).toInt64
theorem ldS_s (σ : HS) (n : Nat) : ldS σ (n + 1) = ldS σ n + 1000000 * (cI (gI σ 40 n) (gI σ 38 n)).toInt64 / (gI σ 41 n).toInt64 := rfl
theorem t_pos {k : Nat} (h1 : 100 ≤ k) (h2 : k ≤ 100000) : 0 < (nI k).toInt64 ∧ ¬ (nI k).toInt64 = 0 := by
  rw [nI_l (by omega)]
  have e : (0 : Int64) = lN 0 := by decide
  rw [e]
  exact ⟨(pk_lLT (by omega) (by omega)).mpr (by omega), fun z => absurd ((pk_lEQ (by omega) (by omega)).mp z) (by omega)⟩
theorem s_quotL (a d : Int64) (hd : 0 < d ∧ ¬ d = 0) (σ : HS) (Q : PO) : MM 132 [.inr (.inl a), .inr (.inl d)] σ Q ↔ Q (some (.inr (.inl (a / d)))) σ := by
  rw [eX11_quotient 40]
  simp only [am_run_s, bt, lf, am_in, am_ar, am_fit, am_ld, am_ct, Nat.reduceLT, Nat.reduceEqDiff, reduceIte, Nat.reduceAdd, Nat.reduceLeDiff, Nat.reduceSub, Bool.false_eq_true, if_true, if_false, ite_true, ite_false, List.length_cons, List.length_nil, Nat.zero_add, Nat.add_zero, and_true, true_and, true_or, or_true, and_self, Nat.le_refl, Nat.lt_irrefl, gI_sI, gL_sL, gQ_sQ, gI_sJ, gI_sL, gI_sQ, gL_sI, gL_sQ, gL_sJ, gQ_sI, gQ_sL, gQ_sJ, gN_sI, gN_sL, gN_sQ, gN_sJ, E_c_0, E_jmp_0, E_jp_0, E_l2n_0, E_lcmp_0, E_ldL_a, E_ldL_b, E_rL_0, kX11_quotient, lc_pos, hd.1, hd.2, not_false_eq_true]
theorem l_loadX {k : Nat} {σ : HS} (h : Inv k σ) {Q : PO} (hQ : Q (some (.inr (.inl (ldS σ (gN σ 10))))) σ) : ∀ (n i : Nat) (o : Option AV), i + n = gN σ 10 → am_T (kX11_load S1) MM Q 4 [some (.inr (.inr (some (11, 0)))), some (.inr (.inl (ldS σ i))), none, some (.inl (nI i)), o] [] σ 0 0 := by
  obtain ⟨hw1, hw2, hw⟩ := h.wc
  intro n
  induction n with
  | zero =>
    intro i o hi
    rw [hX11_load 40]
    have h0 : ¬ nI i < nI (gN σ 10) := nI_nlt (by omega) (by omega)
    have e : i = gN σ 10 := by omega
    subst e
    simp only [am_run_s, bt, lf, am_in, am_ar, am_fit, am_ld, am_ct, Nat.reduceLT, Nat.reduceEqDiff, reduceIte, Nat.reduceAdd, Nat.reduceLeDiff, Nat.reduceSub, Bool.false_eq_true, if_true, if_false, ite_true, ite_false, List.length_cons, List.length_nil, Nat.zero_add, Nat.add_zero, and_true, true_and, true_or, or_true, and_self, Nat.le_refl, Nat.lt_irrefl, gI_sI, gL_sL, gQ_sQ, gI_sJ, gI_sL, gI_sQ, gL_sI, gL_sQ, gL_sJ, gQ_sI, gQ_sL, gQ_sJ, gN_sI, gN_sL, gN_sQ, gN_sJ, E_aald_0, E_cS_a, E_cS_b, E_cV_a, E_cV_b, E_c_0, E_getI_0, E_getR_0, E_i2l_0, E_inc_a, E_inc_b, E_jl_0, E_jmp_0, E_kk, E_l2_0, E_ldI_a, E_ldI_b, E_ldL_a, E_ldL_b, E_ldR_a, E_ldR_b, E_rL_0, E_stI_0, E_stL_0, E_stR_0, aL_91, am_cc, am_nl, am_ok, am_pop, am_rt, am_set, cC_10, cC_11, cC_6, cC_91, rQ_91, rR_1200, rR_701, sN_91, kX11_load, hw1, h0]
    exact hQ
  | succ n ih =>
    intro i o hi
    have hj : i < gN σ 10 := by omega
    rw [hX11_load 40]
    have h2 := nI_t hj (by omega)
    have h3 : vp_in (nI i) 24 := vp_in_nI (by omega) (by omega)
    have h4 : (nI i).toNatClampNeg = i := nI_clamp (by omega)
    have hq := h.2.1.1 i hj
    obtain ⟨-, -, ⟨t, ht, ht1, ht2⟩, -⟩ := h.2.1.2.2.2.2.2.2 i hj
    have hx : gI σ 1105 i = nI t := by rw [hq.2.2.2.2.1]; exact ht
    simp only [am_run_s, bt, lf, am_in, am_ar, am_fit, am_ld, am_ct, Nat.reduceLT, Nat.reduceEqDiff, reduceIte, Nat.reduceAdd, Nat.reduceLeDiff, Nat.reduceSub, Bool.false_eq_true, if_true, if_false, ite_true, ite_false, List.length_cons, List.length_nil, Nat.zero_add, Nat.add_zero, and_true, true_and, true_or, or_true, and_self, Nat.le_refl, Nat.lt_irrefl, gI_sI, gL_sL, gQ_sQ, gI_sJ, gI_sL, gI_sQ, gL_sI, gL_sQ, gL_sJ, gQ_sI, gQ_sL, gQ_sJ, gN_sI, gN_sL, gN_sQ, gN_sJ, E_aald_0, E_cS_a, E_cS_b, E_cV_a, E_cV_b, E_c_0, E_getI_0, E_getR_0, E_i2l_0, E_inc_a, E_inc_b, E_jl_0, E_jmp_0, E_kk, E_l2_0, E_ldI_a, E_ldI_b, E_ldL_a, E_ldL_b, E_ldR_a, E_ldR_b, E_rL_0, E_stI_0, E_stL_0, E_stR_0, aL_91, am_cc, am_nl, am_ok, am_pop, am_rt, am_set, cC_10, cC_11, cC_6, cC_91, rQ_91, rR_1200, rR_701, sN_91, kX11_load, hw1, h2, h3, h4, hq.1, hj, ↓s_cost, hx, ↓s_quotL _ _ (t_pos ht1 ht2), nI_1]
    have := ih (i + 1) (some (.inr (.inr (some (10, i))))) (by omega)
    rw [ldS_s, ht, ← hq.2.2.2.1, ← (h.2.1.2.2.1.1 i hj).1] at this
    exact this
theorem l_loadM {k : Nat} {σ : HS} (h : Inv k σ) {Q : PO} (hQ : Q (some (.inr (.inl (ldS σ (gN σ 10))))) σ) : ∀ (n i : Nat), i + n = gN σ 10 → am_T (kX12_load S1) MM Q 4 [some (.inr (.inr (some (12, 0)))), some (.inr (.inl (ldS σ i))), none, some (.inl (nI i))] [] σ 0 0 := by
  obtain ⟨hw1, hw2, hw⟩ := h.wc
  intro n
  induction n with
  | zero =>
    intro i hi
    rw [hX12_load 40]
    have h0 : ¬ nI i < nI (gN σ 10) := nI_nlt (by omega) (by omega)
    have e : i = gN σ 10 := by omega
    subst e
    simp only [am_run_s, bt, lf, am_in, am_ar, am_fit, am_ld, am_ct, Nat.reduceLT, Nat.reduceEqDiff, reduceIte, Nat.reduceAdd, Nat.reduceLeDiff, Nat.reduceSub, Bool.false_eq_true, if_true, if_false, ite_true, ite_false, List.length_cons, List.length_nil, Nat.zero_add, Nat.add_zero, and_true, true_and, true_or, or_true, and_self, Nat.le_refl, Nat.lt_irrefl, gI_sI, gL_sL, gQ_sQ, gI_sJ, gI_sL, gI_sQ, gL_sI, gL_sQ, gL_sJ, gQ_sI, gQ_sL, gQ_sJ, gN_sI, gN_sL, gN_sQ, gN_sJ, E_cV_a, E_cV_b, E_c_0, E_getI_0, E_getR_0, E_i2l_0, E_iald_0, E_inc_a, E_inc_b, E_jl_0, E_jmp_0, E_kk, E_l2_0, E_l2n_0, E_ldI_a, E_ldI_b, E_ldL_a, E_ldL_b, E_ldR_a, E_ldR_b, E_rL_0, E_stI_0, E_stL_0, aL_41, am_cc, am_nl, am_ok, am_pop, am_rt, am_set, cC_12, cC_41, rR_1308, kX12_load, hw2, h0]
    exact hQ
  | succ n ih =>
    intro i hi
    have hj : i < gN σ 10 := by omega
    rw [hX12_load 40]
    have h2 := nI_t hj (by omega)
    have h3 : vp_in (nI i) 24 := vp_in_nI (by omega) (by omega)
    have h4 : (nI i).toNatClampNeg = i := nI_clamp (by omega)
    obtain ⟨-, -, ⟨t, ht, ht1, ht2⟩, -⟩ := h.2.1.2.2.2.2.2.2 i hj
    simp only [am_run_s, bt, lf, am_in, am_ar, am_fit, am_ld, am_ct, Nat.reduceLT, Nat.reduceEqDiff, reduceIte, Nat.reduceAdd, Nat.reduceLeDiff, Nat.reduceSub, Bool.false_eq_true, if_true, if_false, ite_true, ite_false, List.length_cons, List.length_nil, Nat.zero_add, Nat.add_zero, and_true, true_and, true_or, or_true, and_self, Nat.le_refl, Nat.lt_irrefl, gI_sI, gL_sL, gQ_sQ, gI_sJ, gI_sL, gI_sQ, gL_sI, gL_sQ, gL_sJ, gQ_sI, gQ_sL, gQ_sJ, gN_sI, gN_sL, gN_sQ, gN_sJ, E_cV_a, E_cV_b, E_c_0, E_getI_0, E_getR_0, E_i2l_0, E_iald_0, E_inc_a, E_inc_b, E_jl_0, E_jmp_0, E_kk, E_l2_0, E_l2n_0, E_ldI_a, E_ldI_b, E_ldL_a, E_ldL_b, E_ldR_a, E_ldR_b, E_rL_0, E_stI_0, E_stL_0, aL_41, am_cc, am_nl, am_ok, am_pop, am_rt, am_set, cC_12, cC_41, rR_1308, kX12_load, hw2, h2, h3, h4, ↓s_mostOf i (show i < 24 by omega), ht, (t_pos ht1 ht2).2, not_false_eq_true, nI_1]
    have := ih (i + 1) (by omega)
    rw [ldS_s, ht] at this
    exact this
theorem api_load : apiL 118 204 [] := by
  intro k σ hk h
  rw [eX11_load 40]
  simp only [am_run_s, bt, lf, am_in, am_ar, am_fit, am_ld, am_ct, Nat.reduceLT, Nat.reduceEqDiff, reduceIte, Nat.reduceAdd, Nat.reduceLeDiff, Nat.reduceSub, Bool.false_eq_true, if_true, if_false, ite_true, ite_false, List.length_cons, List.length_nil, Nat.zero_add, Nat.add_zero, and_true, true_and, true_or, or_true, and_self, Nat.le_refl, Nat.lt_irrefl, gI_sI, gL_sL, gQ_sQ, gI_sJ, gI_sL, gI_sQ, gL_sI, gL_sQ, gL_sJ, gQ_sI, gQ_sL, gQ_sJ, gN_sI, gN_sL, gN_sQ, gN_sJ, E_aald_0, E_cS_a, E_cS_b, E_cV_a, E_cV_b, E_c_0, E_getI_0, E_getR_0, E_i2l_0, E_inc_a, E_inc_b, E_jl_0, E_jmp_0, E_kk, E_l2_0, E_ldI_a, E_ldI_b, E_ldL_a, E_ldL_b, E_ldR_a, E_ldR_b, E_rL_0, E_stI_0, E_stL_0, E_stR_0, aL_91, am_cc, am_nl, am_ok, am_pop, am_rt, am_set, cC_10, cC_11, cC_6, cC_91, rQ_91, rR_1200, rR_701, sN_91, kX11_load]
  refine l_loadX h ?_ (gN σ 10) 0 _ (by omega)
  rw [eX12_load 40]
  simp only [am_run_s, bt, lf, am_in, am_ar, am_fit, am_ld, am_ct, Nat.reduceLT, Nat.reduceEqDiff, reduceIte, Nat.reduceAdd, Nat.reduceLeDiff, Nat.reduceSub, Bool.false_eq_true, if_true, if_false, ite_true, ite_false, List.length_cons, List.length_nil, Nat.zero_add, Nat.add_zero, and_true, true_and, true_or, or_true, and_self, Nat.le_refl, Nat.lt_irrefl, gI_sI, gL_sL, gQ_sQ, gI_sJ, gI_sL, gI_sQ, gL_sI, gL_sQ, gL_sJ, gQ_sI, gQ_sL, gQ_sJ, gN_sI, gN_sL, gN_sQ, gN_sJ, E_cV_a, E_cV_b, E_c_0, E_getI_0, E_getR_0, E_i2l_0, E_iald_0, E_inc_a, E_inc_b, E_jl_0, E_jmp_0, E_kk, E_l2_0, E_l2n_0, E_ldI_a, E_ldI_b, E_ldL_a, E_ldL_b, E_ldR_a, E_ldR_b, E_rL_0, E_stI_0, E_stL_0, aL_41, am_cc, am_nl, am_ok, am_pop, am_rt, am_set, cC_12, cC_41, rR_1308, kX12_load]
  exact l_loadM h ⟨⟨_, rfl, rfl⟩, h.up⟩ (gN σ 10) 0 (by omega)
