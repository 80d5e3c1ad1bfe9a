/-! ===== rows: copy ===== -/
theorem st1 {r a c : Nat} (hr : r ≤ 8) (ha : a < 2147483648) (hc : c < 2147483648) : (nI r - nI a < nI c) = (r < a + c) := by
  apply propext
  rw [Int32.lt_iff_toInt_lt, nI_toInt (n := c) (by omega)]
  have e : (nI r - nI a).toInt = (r : Int) - a := by
    rw [Int32.toInt_sub, nI_toInt (by omega), nI_toInt (by omega), Int.bmod_eq_of_le]
    · omega
    · omega
  rw [e]
  omega
theorem st2 {r a c : Nat} (hr : r ≤ 8) (ha : a < 2147483648) (hc : c < 2147483648) : ((nI r).toInt64 < (nI a).toInt64 + (nI c).toInt64) = (r < a + c) := by
  rw [nI_l (by omega), nI_l (by omega), nI_l (by omega), lN_add]
  exact propext (pk_lLT (by omega) (by omega))
def PMV (f : Nat) : Bool := Nat.beq f 62
theorem l_cp2 {a b c : Nat} {Q : PO} (hb : b + c ≤ 8) : ∀ (t k : Nat) (σ : HS), k + t = c → (∀ σ', frm PRM σ σ' → (∀ q, gI σ' 61 q = if b + k ≤ q ∧ q < b + c then gI σ 62 (q - b) else gI σ 61 q) → Q (some (.inl (nI c))) σ') →
    am_T (kX12_copy S1) MM Q 102 [some (.inr (.inr (some (12, 0)))), some (.inl (nI a)), some (.inl (nI b)), some (.inl (nI c)), some (.inl (nI k))] [] σ 0 0 := by
  intro t
  induction t with
  | zero =>
    intro k σ hk hQ
    have e : k = c := by omega
    subst e
    rw [hX12_copy 16]
    have h0 : ¬ nI k < nI k := nI_nlt (by omega) (by omega)
    simp only [am_run_s, bt, lf, am_in, am_ar, am_fit, am_ld, am_ct, Nat.reduceLT, Nat.reduceEqDiff, reduceIte, Nat.reduceAdd, Nat.reduceLeDiff, Nat.reduceSub, Bool.false_eq_true, if_true, if_false, ite_true, ite_false, List.length_cons, List.length_nil, Nat.zero_add, Nat.add_zero, and_true, true_and, true_or, or_true, and_self, Nat.le_refl, Nat.lt_irrefl, gI_sI, gL_sL, gQ_sQ, gI_sJ, gI_sL, gI_sQ, gL_sI, gL_sQ, gL_sJ, gQ_sI, gQ_sL, gQ_sJ, gN_sI, gN_sL, gN_sQ, gN_sJ, E_b2_0, E_cV_a, E_cV_b, E_c_0, E_getI_0, E_getR_0, E_i2l_0, E_iald_0, E_iast_0, E_inc_a, E_inc_b, E_jl_0, E_jmp_0, E_jn_0, E_jp_0, E_kk, E_l2_0, E_lcmp_0, E_ldI_a, E_ldI_b, E_ldR_a, E_ldR_b, E_rI_0, E_stI_0, aL_61, aL_62, am_cc, am_nl, am_ok, am_pop, am_rt, am_set, cC_12, cC_61, cC_62, rR_1364, rR_1365, kX12_copy, kX12_copy_0, kX12_copy_1, h0]
    exact hQ σ frm.rf (fun q => by rw [if_neg (by omega)])
  | succ t ih =>
    intro k σ hk hQ
    rw [hX12_copy 16]
    have h0 := nI_t (show k < c by omega) (by omega)
    have h3 : vp_in (nI (b + k)) 8 := vp_in_nI (by omega) (by omega)
    have h4 : (nI (b + k)).toNatClampNeg = b + k := nI_clamp (by omega)
    have h5 : vp_in (nI k) 8 := vp_in_nI (by omega) (by omega)
    have h6 : (nI k).toNatClampNeg = k := nI_clamp (by omega)
    simp only [am_run_s, bt, lf, am_in, am_ar, am_fit, am_ld, am_ct, Nat.reduceLT, Nat.reduceEqDiff, reduceIte, Nat.reduceAdd, Nat.reduceLeDiff, Nat.reduceSub, Bool.false_eq_true, if_true, if_false, ite_true, ite_false, List.length_cons, List.length_nil, Nat.zero_add, Nat.add_zero, and_true, true_and, true_or, or_true, and_self, Nat.le_refl, Nat.lt_irrefl, gI_sI, gL_sL, gQ_sQ, gI_sJ, gI_sL, gI_sQ, gL_sI, gL_sQ, gL_sJ, gQ_sI, gQ_sL, gQ_sJ, gN_sI, gN_sL, gN_sQ, gN_sJ, E_b2_0, E_cV_a, E_cV_b, E_c_0, E_getI_0, E_getR_0, E_i2l_0, E_iald_0, E_iast_0, E_inc_a, E_inc_b, E_jl_0, E_jmp_0, E_jn_0, E_jp_0, E_kk, E_l2_0, E_lcmp_0, E_ldI_a, E_ldI_b, E_ldR_a, E_ldR_b, E_rI_0, E_stI_0, aL_61, aL_62, am_cc, am_nl, am_ok, am_pop, am_rt, am_set, cC_12, cC_61, cC_62, rR_1364, rR_1365, kX12_copy, kX12_copy_0, kX12_copy_1, h0, nI_add, h3, h4, h5, h6, nI_1]
    have f0 : frm PRM σ (sI σ 61 (b + k) (gI σ 62 k)) := frm.rf.si rfl
    refine ih (k + 1) _ (by omega) (fun σ' f1 h1 => hQ σ' (f0.tr f1) (fun q => ?_))
    rw [h1 q]
    simp only [gI_sI, gL_sL, gQ_sQ, gI_sJ, gI_sL, gI_sQ, gL_sI, gL_sQ, gL_sJ, gQ_sI, gQ_sL, gQ_sJ, gN_sI, gN_sL, gN_sQ, gN_sJ, Nat.reduceLT, Nat.reduceEqDiff, reduceIte, Nat.reduceAdd, Nat.reduceLeDiff, Nat.reduceSub, Bool.false_eq_true, if_true, if_false, ite_true, ite_false, List.length_cons, List.length_nil, Nat.zero_add, Nat.add_zero, and_true, true_and, true_or, or_true, and_self, Nat.le_refl, Nat.lt_irrefl]
    by_cases e : q = b + k
    · subst e
      rw [if_neg (by omega), if_pos rfl, if_pos (by omega)]
      congr 1; omega
    · by_cases e2 : b + (k + 1) ≤ q ∧ q < b + c
      · rw [if_pos e2, if_pos (by omega)]
      · rw [if_neg e2, if_neg e, if_neg (by omega)]
theorem l_cp1 {a b c : Nat} {Q : PO} (ha : a + c ≤ 8) : ∀ (t k : Nat) (σ : HS), k + t = c → (∀ q, q < k → gI σ 62 q = gI σ 61 (a + q)) → (∀ σ', frm PMV σ σ' → (∀ q, q < c → gI σ' 62 q = gI σ 61 (a + q)) → am_T (kX12_copy S1) MM Q 102 [some (.inr (.inr (some (12, 0)))), some (.inl (nI a)), some (.inl (nI b)), some (.inl (nI c)), some (.inl (nI 0))] [] σ' 0 0) →
    am_T (kX12_copy S1) MM Q 71 [some (.inr (.inr (some (12, 0)))), some (.inl (nI a)), some (.inl (nI b)), some (.inl (nI c)), some (.inl (nI k))] [] σ 0 0 := by
  intro t
  induction t with
  | zero =>
    intro k σ hk hm hQ
    have e : k = c := by omega
    subst e
    rw [hX12_copy 16]
    have h0 : ¬ nI k < nI k := nI_nlt (by omega) (by omega)
    simp only [am_run_s, bt, lf, am_in, am_ar, am_fit, am_ld, am_ct, Nat.reduceLT, Nat.reduceEqDiff, reduceIte, Nat.reduceAdd, Nat.reduceLeDiff, Nat.reduceSub, Bool.false_eq_true, if_true, if_false, ite_true, ite_false, List.length_cons, List.length_nil, Nat.zero_add, Nat.add_zero, and_true, true_and, true_or, or_true, and_self, Nat.le_refl, Nat.lt_irrefl, gI_sI, gL_sL, gQ_sQ, gI_sJ, gI_sL, gI_sQ, gL_sI, gL_sQ, gL_sJ, gQ_sI, gQ_sL, gQ_sJ, gN_sI, gN_sL, gN_sQ, gN_sJ, E_b2_0, E_cV_a, E_cV_b, E_c_0, E_getI_0, E_getR_0, E_i2l_0, E_iald_0, E_iast_0, E_inc_a, E_inc_b, E_jl_0, E_jmp_0, E_jn_0, E_jp_0, E_kk, E_l2_0, E_lcmp_0, E_ldI_a, E_ldI_b, E_ldR_a, E_ldR_b, E_rI_0, E_stI_0, aL_61, aL_62, am_cc, am_nl, am_ok, am_pop, am_rt, am_set, cC_12, cC_61, cC_62, rR_1364, rR_1365, kX12_copy, kX12_copy_0, kX12_copy_1, h0]
    exact hQ σ frm.rf hm
  | succ t ih =>
    intro k σ hk hm hQ
    rw [hX12_copy 16]
    have h0 := nI_t (show k < c by omega) (by omega)
    have h3 : vp_in (nI (a + k)) 8 := vp_in_nI (by omega) (by omega)
    have h4 : (nI (a + k)).toNatClampNeg = a + k := nI_clamp (by omega)
    have h5 : vp_in (nI k) 8 := vp_in_nI (by omega) (by omega)
    have h6 : (nI k).toNatClampNeg = k := nI_clamp (by omega)
    simp only [am_run_s, bt, lf, am_in, am_ar, am_fit, am_ld, am_ct, Nat.reduceLT, Nat.reduceEqDiff, reduceIte, Nat.reduceAdd, Nat.reduceLeDiff, Nat.reduceSub, Bool.false_eq_true, if_true, if_false, ite_true, ite_false, List.length_cons, List.length_nil, Nat.zero_add, Nat.add_zero, and_true, true_and, true_or, or_true, and_self, Nat.le_refl, Nat.lt_irrefl, gI_sI, gL_sL, gQ_sQ, gI_sJ, gI_sL, gI_sQ, gL_sI, gL_sQ, gL_sJ, gQ_sI, gQ_sL, gQ_sJ, gN_sI, gN_sL, gN_sQ, gN_sJ, E_b2_0, E_cV_a, E_cV_b, E_c_0, E_getI_0, E_getR_0, E_i2l_0, E_iald_0, E_iast_0, E_inc_a, E_inc_b, E_jl_0, E_jmp_0, E_jn_0, E_jp_0, E_kk, E_l2_0, E_lcmp_0, E_ldI_a, E_ldI_b, E_ldR_a, E_ldR_b, E_rI_0, E_stI_0, aL_61, aL_62, am_cc, am_nl, am_ok, am_pop, am_rt, am_set, cC_12, cC_61, cC_62, rR_1364, rR_1365, kX12_copy, kX12_copy_0, kX12_copy_1, h0, nI_add, h3, h4, h5, h6, nI_1]
    have f0 : frm PMV σ (sI σ 62 k (gI σ 61 (a + k))) := frm.rf.si rfl
    refine ih (k + 1) _ (by omega) ?_ (fun σ' f1 h1 => hQ σ' (f0.tr f1) (fun q hq => ?_))
    · intro q hq
      simp only [gI_sI, gL_sL, gQ_sQ, gI_sJ, gI_sL, gI_sQ, gL_sI, gL_sQ, gL_sJ, gQ_sI, gQ_sL, gQ_sJ, gN_sI, gN_sL, gN_sQ, gN_sJ, Nat.reduceLT, Nat.reduceEqDiff, reduceIte, Nat.reduceAdd, Nat.reduceLeDiff, Nat.reduceSub, Bool.false_eq_true, if_true, if_false, ite_true, ite_false, List.length_cons, List.length_nil, Nat.zero_add, Nat.add_zero, and_true, true_and, true_or, or_true, and_self, Nat.le_refl, Nat.lt_irrefl]
      by_cases e : q = k
      · subst e; rw [if_pos rfl]
      · rw [if_neg e]; exact hm q (by omega)
    · rw [h1 q hq, f0.gi rfl]
theorem api_copy (i j n : Int32) : apiI 125 211 [.inl i, .inl j, .inl n] := by
  intro k σ hk h
  rw [eX11_copy 35]
  obtain ⟨hr, hb⟩ := h.2.2.2.2.2.2.2.1
  rcases hr with ⟨g1, g2⟩ | ⟨r, h8, g1, g2, g3, g4⟩
  · simp only [am_run_s, bt, lf, am_in, am_ar, am_fit, am_ld, am_ct, Nat.reduceLT, Nat.reduceEqDiff, reduceIte, Nat.reduceAdd, Nat.reduceLeDiff, Nat.reduceSub, Bool.false_eq_true, if_true, if_false, ite_true, ite_false, List.length_cons, List.length_nil, Nat.zero_add, Nat.add_zero, and_true, true_and, true_or, or_true, and_self, Nat.le_refl, Nat.lt_irrefl, gI_sI, gL_sL, gQ_sQ, gI_sJ, gI_sL, gI_sQ, gL_sI, gL_sQ, gL_sJ, gQ_sI, gQ_sL, gQ_sJ, gN_sI, gN_sL, gN_sQ, gN_sJ, E_cV_a, E_cV_b, E_c_0, E_copy_0, E_getI_0, E_getR_0, E_jn_0, E_jz_0, E_kk, E_ldI_a, E_ldI_b, E_ldR_a, E_ldR_b, E_rI_0, aL_80, am_cc, am_pop, am_rt, cC_11, cC_7, cC_80, rR_1206, rR_800, kX11_copy, g1, ↓s_refuse2]
    rw [eX12_copy 35]
    have : (-1 : Int32) < 0 := by decide
    simp only [am_run_s, bt, lf, am_in, am_ar, am_fit, am_ld, am_ct, Nat.reduceLT, Nat.reduceEqDiff, reduceIte, Nat.reduceAdd, Nat.reduceLeDiff, Nat.reduceSub, Bool.false_eq_true, if_true, if_false, ite_true, ite_false, List.length_cons, List.length_nil, Nat.zero_add, Nat.add_zero, and_true, true_and, true_or, or_true, and_self, Nat.le_refl, Nat.lt_irrefl, gI_sI, gL_sL, gQ_sQ, gI_sJ, gI_sL, gI_sQ, gL_sI, gL_sQ, gL_sJ, gQ_sI, gQ_sL, gQ_sJ, gN_sI, gN_sL, gN_sQ, gN_sJ, E_b2_0, E_cV_a, E_cV_b, E_c_0, E_getI_0, E_getR_0, E_i2l_0, E_iald_0, E_iast_0, E_inc_a, E_inc_b, E_jl_0, E_jmp_0, E_jn_0, E_jp_0, E_kk, E_l2_0, E_lcmp_0, E_ldI_a, E_ldI_b, E_ldR_a, E_ldR_b, E_rI_0, E_stI_0, aL_61, aL_62, am_cc, am_nl, am_ok, am_pop, am_rt, am_set, cC_12, cC_61, cC_62, rR_1364, rR_1365, kX12_copy, kX12_copy_0, kX12_copy_1, g2, this, ↓s_no2]
    exact ⟨⟨_, rfl, rfl⟩, h.refuse⟩
  have e0 := nI_f (j := r) (by omega)
  by_cases hn : n < 0
  · simp only [am_run_s, bt, lf, am_in, am_ar, am_fit, am_ld, am_ct, Nat.reduceLT, Nat.reduceEqDiff, reduceIte, Nat.reduceAdd, Nat.reduceLeDiff, Nat.reduceSub, Bool.false_eq_true, if_true, if_false, ite_true, ite_false, List.length_cons, List.length_nil, Nat.zero_add, Nat.add_zero, and_true, true_and, true_or, or_true, and_self, Nat.le_refl, Nat.lt_irrefl, gI_sI, gL_sL, gQ_sQ, gI_sJ, gI_sL, gI_sQ, gL_sI, gL_sQ, gL_sJ, gQ_sI, gQ_sL, gQ_sJ, gN_sI, gN_sL, gN_sQ, gN_sJ, E_cV_a, E_cV_b, E_c_0, E_copy_0, E_getI_0, E_getR_0, E_jn_0, E_jz_0, E_kk, E_ldI_a, E_ldI_b, E_ldR_a, E_ldR_b, E_rI_0, aL_80, am_cc, am_pop, am_rt, cC_11, cC_7, cC_80, rR_1206, rR_800, kX11_copy, g1, i01, hn, ↓s_refuse4]
    rw [eX12_copy 35]
    simp only [am_run_s, bt, lf, am_in, am_ar, am_fit, am_ld, am_ct, Nat.reduceLT, Nat.reduceEqDiff, reduceIte, Nat.reduceAdd, Nat.reduceLeDiff, Nat.reduceSub, Bool.false_eq_true, if_true, if_false, ite_true, ite_false, List.length_cons, List.length_nil, Nat.zero_add, Nat.add_zero, and_true, true_and, true_or, or_true, and_self, Nat.le_refl, Nat.lt_irrefl, gI_sI, gL_sL, gQ_sQ, gI_sJ, gI_sL, gI_sQ, gL_sI, gL_sQ, gL_sJ, gQ_sI, gQ_sL, gQ_sJ, gN_sI, gN_sL, gN_sQ, gN_sJ, E_b2_0, E_cV_a, E_cV_b, E_c_0, E_getI_0, E_getR_0, E_i2l_0, E_iald_0, E_iast_0, E_inc_a, E_inc_b, E_jl_0, E_jmp_0, E_jn_0, E_jp_0, E_kk, E_l2_0, E_lcmp_0, E_ldI_a, E_ldI_b, E_ldR_a, E_ldR_b, E_rI_0, E_stI_0, aL_61, aL_62, am_cc, am_nl, am_ok, am_pop, am_rt, am_set, cC_12, cC_61, cC_62, rR_1364, rR_1365, kX12_copy, kX12_copy_0, kX12_copy_1, g3, e0, hn, ↓s_no4]
    exact ⟨⟨_, rfl, rfl⟩, h.refuse⟩
  obtain ⟨c, hc, rfl⟩ := nI_of hn
  by_cases hi : i < 0
  · simp only [am_run_s, bt, lf, am_in, am_ar, am_fit, am_ld, am_ct, Nat.reduceLT, Nat.reduceEqDiff, reduceIte, Nat.reduceAdd, Nat.reduceLeDiff, Nat.reduceSub, Bool.false_eq_true, if_true, if_false, ite_true, ite_false, List.length_cons, List.length_nil, Nat.zero_add, Nat.add_zero, and_true, true_and, true_or, or_true, and_self, Nat.le_refl, Nat.lt_irrefl, gI_sI, gL_sL, gQ_sQ, gI_sJ, gI_sL, gI_sQ, gL_sI, gL_sQ, gL_sJ, gQ_sI, gQ_sL, gQ_sJ, gN_sI, gN_sL, gN_sQ, gN_sJ, E_cV_a, E_cV_b, E_c_0, E_copy_0, E_getI_0, E_getR_0, E_jn_0, E_jz_0, E_kk, E_ldI_a, E_ldI_b, E_ldR_a, E_ldR_b, E_rI_0, aL_80, am_cc, am_pop, am_rt, cC_11, cC_7, cC_80, rR_1206, rR_800, kX11_copy, g1, i01, hn, ↓s_hasStretch, bI_z, hi, not_true_eq_false, not_false_eq_true, false_and, ↓s_refuse6]
    rw [eX12_copy 35]
    simp only [am_run_s, bt, lf, am_in, am_ar, am_fit, am_ld, am_ct, Nat.reduceLT, Nat.reduceEqDiff, reduceIte, Nat.reduceAdd, Nat.reduceLeDiff, Nat.reduceSub, Bool.false_eq_true, if_true, if_false, ite_true, ite_false, List.length_cons, List.length_nil, Nat.zero_add, Nat.add_zero, and_true, true_and, true_or, or_true, and_self, Nat.le_refl, Nat.lt_irrefl, gI_sI, gL_sL, gQ_sQ, gI_sJ, gI_sL, gI_sQ, gL_sI, gL_sQ, gL_sJ, gQ_sI, gQ_sL, gQ_sJ, gN_sI, gN_sL, gN_sQ, gN_sJ, E_b2_0, E_cV_a, E_cV_b, E_c_0, E_getI_0, E_getR_0, E_i2l_0, E_iald_0, E_iast_0, E_inc_a, E_inc_b, E_jl_0, E_jmp_0, E_jn_0, E_jp_0, E_kk, E_l2_0, E_lcmp_0, E_ldI_a, E_ldI_b, E_ldR_a, E_ldR_b, E_rI_0, E_stI_0, aL_61, aL_62, am_cc, am_nl, am_ok, am_pop, am_rt, am_set, cC_12, cC_61, cC_62, rR_1364, rR_1365, kX12_copy, kX12_copy_0, kX12_copy_1, g3, e0, hn, hi, ↓s_no6]
    exact ⟨⟨_, rfl, rfl⟩, h.refuse⟩
  obtain ⟨a, ha, rfl⟩ := nI_of hi
  have s1 := st1 (r := r) (a := a) (c := c) h8 (by omega) (by omega)
  have s2 := st2 (r := r) (a := a) (c := c) h8 (by omega) (by omega)
  by_cases hj : j < 0
  · by_cases q1 : r < a + c
    · simp only [am_run_s, bt, lf, am_in, am_ar, am_fit, am_ld, am_ct, Nat.reduceLT, Nat.reduceEqDiff, reduceIte, Nat.reduceAdd, Nat.reduceLeDiff, Nat.reduceSub, Bool.false_eq_true, if_true, if_false, ite_true, ite_false, List.length_cons, List.length_nil, Nat.zero_add, Nat.add_zero, and_true, true_and, true_or, or_true, and_self, Nat.le_refl, Nat.lt_irrefl, gI_sI, gL_sL, gQ_sQ, gI_sJ, gI_sL, gI_sQ, gL_sI, gL_sQ, gL_sJ, gQ_sI, gQ_sL, gQ_sJ, gN_sI, gN_sL, gN_sQ, gN_sJ, E_cV_a, E_cV_b, E_c_0, E_copy_0, E_getI_0, E_getR_0, E_jn_0, E_jz_0, E_kk, E_ldI_a, E_ldI_b, E_ldR_a, E_ldR_b, E_rI_0, aL_80, am_cc, am_pop, am_rt, cC_11, cC_7, cC_80, rR_1206, rR_800, kX11_copy, g1, i01, hn, ↓s_hasStretch, bI_z, hi, g2, s1, q1, not_true_eq_false, not_false_eq_true, and_false, ↓s_refuse6]
      rw [eX12_copy 35]
      simp only [am_run_s, bt, lf, am_in, am_ar, am_fit, am_ld, am_ct, Nat.reduceLT, Nat.reduceEqDiff, reduceIte, Nat.reduceAdd, Nat.reduceLeDiff, Nat.reduceSub, Bool.false_eq_true, if_true, if_false, ite_true, ite_false, List.length_cons, List.length_nil, Nat.zero_add, Nat.add_zero, and_true, true_and, true_or, or_true, and_self, Nat.le_refl, Nat.lt_irrefl, gI_sI, gL_sL, gQ_sQ, gI_sJ, gI_sL, gI_sQ, gL_sI, gL_sQ, gL_sJ, gQ_sI, gQ_sL, gQ_sJ, gN_sI, gN_sL, gN_sQ, gN_sJ, E_b2_0, E_cV_a, E_cV_b, E_c_0, E_getI_0, E_getR_0, E_i2l_0, E_iald_0, E_iast_0, E_inc_a, E_inc_b, E_jl_0, E_jmp_0, E_jn_0, E_jp_0, E_kk, E_l2_0, E_lcmp_0, E_ldI_a, E_ldI_b, E_ldR_a, E_ldR_b, E_rI_0, E_stI_0, aL_61, aL_62, am_cc, am_nl, am_ok, am_pop, am_rt, am_set, cC_12, cC_61, cC_62, rR_1364, rR_1365, kX12_copy, kX12_copy_0, kX12_copy_1, g3, e0, hn, hi, hj, ↓s_no6]
      exact ⟨⟨_, rfl, rfl⟩, h.refuse⟩
    · simp only [am_run_s, bt, lf, am_in, am_ar, am_fit, am_ld, am_ct, Nat.reduceLT, Nat.reduceEqDiff, reduceIte, Nat.reduceAdd, Nat.reduceLeDiff, Nat.reduceSub, Bool.false_eq_true, if_true, if_false, ite_true, ite_false, List.length_cons, List.length_nil, Nat.zero_add, Nat.add_zero, and_true, true_and, true_or, or_true, and_self, Nat.le_refl, Nat.lt_irrefl, gI_sI, gL_sL, gQ_sQ, gI_sJ, gI_sL, gI_sQ, gL_sI, gL_sQ, gL_sJ, gQ_sI, gQ_sL, gQ_sJ, gN_sI, gN_sL, gN_sQ, gN_sJ, E_cV_a, E_cV_b, E_c_0, E_copy_0, E_getI_0, E_getR_0, E_jn_0, E_jz_0, E_kk, E_ldI_a, E_ldI_b, E_ldR_a, E_ldR_b, E_rI_0, aL_80, am_cc, am_pop, am_rt, cC_11, cC_7, cC_80, rR_1206, rR_800, kX11_copy, g1, i01, hn, ↓s_hasStretch, bI_z, hi, hj, g2, s1, q1, not_true_eq_false, not_false_eq_true, false_and, ↓s_refuse6]
      rw [eX12_copy 35]
      simp only [am_run_s, bt, lf, am_in, am_ar, am_fit, am_ld, am_ct, Nat.reduceLT, Nat.reduceEqDiff, reduceIte, Nat.reduceAdd, Nat.reduceLeDiff, Nat.reduceSub, Bool.false_eq_true, if_true, if_false, ite_true, ite_false, List.length_cons, List.length_nil, Nat.zero_add, Nat.add_zero, and_true, true_and, true_or, or_true, and_self, Nat.le_refl, Nat.lt_irrefl, gI_sI, gL_sL, gQ_sQ, gI_sJ, gI_sL, gI_sQ, gL_sI, gL_sQ, gL_sJ, gQ_sI, gQ_sL, gQ_sJ, gN_sI, gN_sL, gN_sQ, gN_sJ, E_b2_0, E_cV_a, E_cV_b, E_c_0, E_getI_0, E_getR_0, E_i2l_0, E_iald_0, E_iast_0, E_inc_a, E_inc_b, E_jl_0, E_jmp_0, E_jn_0, E_jp_0, E_kk, E_l2_0, E_lcmp_0, E_ldI_a, E_ldI_b, E_ldR_a, E_ldR_b, E_rI_0, E_stI_0, aL_61, aL_62, am_cc, am_nl, am_ok, am_pop, am_rt, am_set, cC_12, cC_61, cC_62, rR_1364, rR_1365, kX12_copy, kX12_copy_0, kX12_copy_1, g3, e0, hn, hi, hj, ↓s_no6]
      exact ⟨⟨_, rfl, rfl⟩, h.refuse⟩
  obtain ⟨b, hb', rfl⟩ := nI_of hj
  have s3 := st1 (r := r) (a := b) (c := c) h8 (by omega) (by omega)
  have s4 := st2 (r := r) (a := b) (c := c) h8 (by omega) (by omega)
  by_cases q1 : r < a + c
  · simp only [am_run_s, bt, lf, am_in, am_ar, am_fit, am_ld, am_ct, Nat.reduceLT, Nat.reduceEqDiff, reduceIte, Nat.reduceAdd, Nat.reduceLeDiff, Nat.reduceSub, Bool.false_eq_true, if_true, if_false, ite_true, ite_false, List.length_cons, List.length_nil, Nat.zero_add, Nat.add_zero, and_true, true_and, true_or, or_true, and_self, Nat.le_refl, Nat.lt_irrefl, gI_sI, gL_sL, gQ_sQ, gI_sJ, gI_sL, gI_sQ, gL_sI, gL_sQ, gL_sJ, gQ_sI, gQ_sL, gQ_sJ, gN_sI, gN_sL, gN_sQ, gN_sJ, E_cV_a, E_cV_b, E_c_0, E_copy_0, E_getI_0, E_getR_0, E_jn_0, E_jz_0, E_kk, E_ldI_a, E_ldI_b, E_ldR_a, E_ldR_b, E_rI_0, aL_80, am_cc, am_pop, am_rt, cC_11, cC_7, cC_80, rR_1206, rR_800, kX11_copy, g1, i01, hn, ↓s_hasStretch, bI_z, hi, g2, s1, q1, not_true_eq_false, not_false_eq_true, and_false, ↓s_refuse6]
    rw [eX12_copy 35]
    simp only [am_run_s, bt, lf, am_in, am_ar, am_fit, am_ld, am_ct, Nat.reduceLT, Nat.reduceEqDiff, reduceIte, Nat.reduceAdd, Nat.reduceLeDiff, Nat.reduceSub, Bool.false_eq_true, if_true, if_false, ite_true, ite_false, List.length_cons, List.length_nil, Nat.zero_add, Nat.add_zero, and_true, true_and, true_or, or_true, and_self, Nat.le_refl, Nat.lt_irrefl, gI_sI, gL_sL, gQ_sQ, gI_sJ, gI_sL, gI_sQ, gL_sI, gL_sQ, gL_sJ, gQ_sI, gQ_sL, gQ_sJ, gN_sI, gN_sL, gN_sQ, gN_sJ, E_b2_0, E_cV_a, E_cV_b, E_c_0, E_getI_0, E_getR_0, E_i2l_0, E_iald_0, E_iast_0, E_inc_a, E_inc_b, E_jl_0, E_jmp_0, E_jn_0, E_jp_0, E_kk, E_l2_0, E_lcmp_0, E_ldI_a, E_ldI_b, E_ldR_a, E_ldR_b, E_rI_0, E_stI_0, aL_61, aL_62, am_cc, am_nl, am_ok, am_pop, am_rt, am_set, cC_12, cC_61, cC_62, rR_1364, rR_1365, kX12_copy, kX12_copy_0, kX12_copy_1, g3, e0, hn, hi, hj, lc_pos, s2, q1, ↓s_no6]
    exact ⟨⟨_, rfl, rfl⟩, h.refuse⟩
  by_cases q2 : r < b + c
  · simp only [am_run_s, bt, lf, am_in, am_ar, am_fit, am_ld, am_ct, Nat.reduceLT, Nat.reduceEqDiff, reduceIte, Nat.reduceAdd, Nat.reduceLeDiff, Nat.reduceSub, Bool.false_eq_true, if_true, if_false, ite_true, ite_false, List.length_cons, List.length_nil, Nat.zero_add, Nat.add_zero, and_true, true_and, true_or, or_true, and_self, Nat.le_refl, Nat.lt_irrefl, gI_sI, gL_sL, gQ_sQ, gI_sJ, gI_sL, gI_sQ, gL_sI, gL_sQ, gL_sJ, gQ_sI, gQ_sL, gQ_sJ, gN_sI, gN_sL, gN_sQ, gN_sJ, E_cV_a, E_cV_b, E_c_0, E_copy_0, E_getI_0, E_getR_0, E_jn_0, E_jz_0, E_kk, E_ldI_a, E_ldI_b, E_ldR_a, E_ldR_b, E_rI_0, aL_80, am_cc, am_pop, am_rt, cC_11, cC_7, cC_80, rR_1206, rR_800, kX11_copy, g1, i01, hn, ↓s_hasStretch, bI_z, hi, hj, g2, s1, s3, q1, q2, not_true_eq_false, not_false_eq_true, and_false, ↓s_refuse6]
    rw [eX12_copy 35]
    simp only [am_run_s, bt, lf, am_in, am_ar, am_fit, am_ld, am_ct, Nat.reduceLT, Nat.reduceEqDiff, reduceIte, Nat.reduceAdd, Nat.reduceLeDiff, Nat.reduceSub, Bool.false_eq_true, if_true, if_false, ite_true, ite_false, List.length_cons, List.length_nil, Nat.zero_add, Nat.add_zero, and_true, true_and, true_or, or_true, and_self, Nat.le_refl, Nat.lt_irrefl, gI_sI, gL_sL, gQ_sQ, gI_sJ, gI_sL, gI_sQ, gL_sI, gL_sQ, gL_sJ, gQ_sI, gQ_sL, gQ_sJ, gN_sI, gN_sL, gN_sQ, gN_sJ, E_b2_0, E_cV_a, E_cV_b, E_c_0, E_getI_0, E_getR_0, E_i2l_0, E_iald_0, E_iast_0, E_inc_a, E_inc_b, E_jl_0, E_jmp_0, E_jn_0, E_jp_0, E_kk, E_l2_0, E_lcmp_0, E_ldI_a, E_ldI_b, E_ldR_a, E_ldR_b, E_rI_0, E_stI_0, aL_61, aL_62, am_cc, am_nl, am_ok, am_pop, am_rt, am_set, cC_12, cC_61, cC_62, rR_1364, rR_1365, kX12_copy, kX12_copy_0, kX12_copy_1, g3, e0, hn, hi, hj, lc_pos, s2, s4, q1, q2, ↓s_no6]
    exact ⟨⟨_, rfl, rfl⟩, h.refuse⟩
  have hb2 : (∀ j : Nat, (-128) ≤ gI σ 80 j ∧ gI σ 80 j ≤ 127) = True := eq_true hb
  have c1 : (nI a).toNatClampNeg = a := nI_clamp (by omega)
  have c2 : (nI b).toNatClampNeg = b := nI_clamp (by omega)
  have c3 : (nI c).toNatClampNeg = c := nI_clamp (by omega)
  have c4 : a + c ≤ 8 := by omega
  have c5 : b + c ≤ 8 := by omega
  simp only [am_run_s, bt, lf, am_in, am_ar, am_fit, am_ld, am_ct, Nat.reduceLT, Nat.reduceEqDiff, reduceIte, Nat.reduceAdd, Nat.reduceLeDiff, Nat.reduceSub, Bool.false_eq_true, if_true, if_false, ite_true, ite_false, List.length_cons, List.length_nil, Nat.zero_add, Nat.add_zero, and_true, true_and, true_or, or_true, and_self, Nat.le_refl, Nat.lt_irrefl, gI_sI, gL_sL, gQ_sQ, gI_sJ, gI_sL, gI_sQ, gL_sI, gL_sQ, gL_sJ, gQ_sI, gQ_sL, gQ_sJ, gN_sI, gN_sL, gN_sQ, gN_sJ, E_cV_a, E_cV_b, E_c_0, E_copy_0, E_getI_0, E_getR_0, E_jn_0, E_jz_0, E_kk, E_ldI_a, E_ldI_b, E_ldR_a, E_ldR_b, E_rI_0, aL_80, am_cc, am_pop, am_rt, cC_11, cC_7, cC_80, rR_1206, rR_800, kX11_copy, g1, i01, hn, ↓s_hasStretch, bI_z, hi, hj, g2, s1, s3, q1, q2, hb2, c1, c2, c3, c4, c5, not_true_eq_false, not_false_eq_true, and_false, false_or]
  rw [eX12_copy 35]
  simp only [am_run_s, bt, lf, am_in, am_ar, am_fit, am_ld, am_ct, Nat.reduceLT, Nat.reduceEqDiff, reduceIte, Nat.reduceAdd, Nat.reduceLeDiff, Nat.reduceSub, Bool.false_eq_true, if_true, if_false, ite_true, ite_false, List.length_cons, List.length_nil, Nat.zero_add, Nat.add_zero, and_true, true_and, true_or, or_true, and_self, Nat.le_refl, Nat.lt_irrefl, gI_sI, gL_sL, gQ_sQ, gI_sJ, gI_sL, gI_sQ, gL_sI, gL_sQ, gL_sJ, gQ_sI, gQ_sL, gQ_sJ, gN_sI, gN_sL, gN_sQ, gN_sJ, E_b2_0, E_cV_a, E_cV_b, E_c_0, E_getI_0, E_getR_0, E_i2l_0, E_iald_0, E_iast_0, E_inc_a, E_inc_b, E_jl_0, E_jmp_0, E_jn_0, E_jp_0, E_kk, E_l2_0, E_lcmp_0, E_ldI_a, E_ldI_b, E_ldR_a, E_ldR_b, E_rI_0, E_stI_0, aL_61, aL_62, am_cc, am_nl, am_ok, am_pop, am_rt, am_set, cC_12, cC_61, cC_62, rR_1364, rR_1365, kX12_copy, kX12_copy_0, kX12_copy_1, g3, e0, hn, hi, hj, lc_pos, s2, s4, q1, q2]
  refine l_cp1 c4 c 0 _ (by omega) (fun _ z => absurd z (by omega)) (fun σ1 f1 m1 => ?_)
  refine l_cp2 c5 c 0 σ1 (by omega) (fun σ2 f2 m2 => ?_)
  have f0 : frm PRB σ (sJ σ 80 (va_cpy (gI σ 80) (gI σ 80) a b c)) := by
    refine ⟨rfl, rfl, fun f i hf => ?_⟩
    have : ¬ f = 80 := fun e => by rw [e] at hf; cases hf
    show (if f = 80 then _ else σ.2.1 f i) = _
    rw [if_neg this]
  have d1 : gI σ2 802 0 = 1 := by rw [f2.gi rfl, f1.gi rfl]; exact g1
  have d2 : gI σ2 801 0 = nI r := by rw [f2.gi rfl, f1.gi rfl]; exact g2
  have d3 : gI σ2 1366 0 = nI r := by rw [f2.gi rfl, f1.gi rfl]; exact g3
  have d4 : ∀ q, gI σ2 80 q = va_cpy (gI σ 80) (gI σ 80) a b c q := fun q => by rw [f2.gi rfl, f1.gi rfl]; rfl
  have d5 : ∀ q, gI σ1 61 q = gI σ 61 q := fun q => by rw [f1.gi rfl]; rfl
  have hv : v_row σ2 σ2 := by
    refine ⟨Or.inr ⟨r, h8, d1, d2, d3, fun q hq => ?_⟩, fun q => ?_⟩
    · rw [d4, m2 q]
      by_cases e : b + 0 ≤ q ∧ q < b + c
      · rw [if_pos e, pk_cpy_in (by omega) e.2, m1 (q - b) (by omega)]
        exact g4 _ (by omega)
      · rw [if_neg e, pk_cpy_out (by omega), d5]
        exact g4 q hq
    · rw [d4]
      by_cases e : b ≤ q ∧ q < b + c
      · rw [pk_cpy_in e.1 e.2]; exact hb _
      · rw [pk_cpy_out (by omega)]; exact hb q
  refine ⟨⟨_, rfl, rfl⟩, ?_⟩
  obtain ⟨J1, rfl⟩ := f1.el
  obtain ⟨J2, rfl⟩ := f2.el
  exact ⟨h.1, h.2.1, h.2.2.1.up, h.2.2.2.1, h.2.2.2.2.1, h.2.2.2.2.2.1, h.2.2.2.2.2.2.1, hv, h.2.2.2.2.2.2.2.2⟩
