/-! ===== node ===== -/
theorem s_nodeInit (i : Nat) (v : Int32) (σ : HS) (Q : PO) (hi : i < gN σ 3) : MM 25 [.inr (.inr (some (3, i))), .inl v] σ Q ↔ Q none (sI σ 400 i v) := by
  rw [eX3_init 40]
  simp only [am_run_s, bt, lf, am_in, am_ar, am_fit, am_ld, am_ct, Nat.reduceLT, Nat.reduceEqDiff, reduceIte, Nat.reduceAdd, Nat.reduceLeDiff, Nat.reduceSub, Bool.false_eq_true, if_true, if_false, ite_true, ite_false, List.length_cons, List.length_nil, Nat.zero_add, Nat.add_zero, and_true, true_and, true_or, or_true, and_self, Nat.le_refl, Nat.lt_irrefl, gI_sI, gL_sL, gQ_sQ, gI_sJ, gI_sL, gI_sQ, gL_sI, gL_sQ, gL_sJ, gQ_sI, gQ_sL, gQ_sJ, gN_sI, gN_sL, gN_sQ, gN_sJ, E_cO_0, E_ldI_a, E_ldI_b, E_ldR_a, E_ldR_b, E_putI_0, E_rV_0, cC_3, kX3_init, hi]
theorem s_addNode (σ : HS) (Q : PO) (nn : Nat) (hn : nn < 10) (hg : gN σ 3 = nn) (hc : gI σ 702 0 = nI nn) : MM 50 [.inr (.inr (some (6, 0)))] σ Q ↔ Q (some (.inl (nI nn))) (sI (sQ (sI (sO σ 3 nn) 400 nn (nI nn)) 90 nn (some (3, nn))) 702 0 (nI (nn + 1))) := by
  rw [eX6_addNode 60]
  have e10 : (10 : Int32) = nI 10 := by decide
  have h1 : nI nn < 10 := by rw [e10]; exact nI_lt hn (by omega)
  have h3 : vp_in (nI nn) 10 := vp_in_nI (by omega) (by omega)
  have h4 : (nI nn).toNatClampNeg = nn := nI_clamp (by omega)
  have hl : nn < nn + 1 := by omega
  have hp : nI (nn + 1) - 1 = nI nn := nI_pred nn
  simp only [am_run_s, bt, lf, am_in, am_ar, am_fit, am_ld, am_ct, Nat.reduceLT, Nat.reduceEqDiff, reduceIte, Nat.reduceAdd, Nat.reduceLeDiff, Nat.reduceSub, Bool.false_eq_true, if_true, if_false, ite_true, ite_false, List.length_cons, List.length_nil, Nat.zero_add, Nat.add_zero, and_true, true_and, true_or, or_true, and_self, Nat.le_refl, Nat.lt_irrefl, gI_sI, gL_sL, gQ_sQ, gI_sJ, gI_sL, gI_sQ, gL_sI, gL_sQ, gL_sJ, gQ_sI, gQ_sL, gQ_sJ, gN_sI, gN_sL, gN_sQ, gN_sJ, E_aast_0, E_b2_0, E_cI_a, E_cI_b, E_c_0, E_dup_0, E_dup_1, E_getI_0, E_getR_0, E_jl_0, E_kk, E_ldR_a, E_ldR_b, E_new_0, E_putI_0, E_rI_0, Nat.reduceDiv, aL_90, am_cc, am_pop, am_rt, am_v, am_vo, am_vs, cC_6, cC_90, gI_sO, gL_sO, gN_sO, gQ_sO, nN_10, nN_3, rQ_90, rR_700, sN_90, kX6_addNode, hc, hg, h1, h3, h4, hl, nI_1, hp, Nat.zero_lt_one, ↓s_nodeInit, cC_3]
theorem cntP_s (p : Nat → Prop) (d : ∀ i, Decidable (p i)) (n : Nat) : cntP p d (n + 1) = cntP p d n + @ite _ (p n) (d n) 1 0 := rfl
theorem cntP_congr {p q : Nat → Prop} {d : ∀ i, Decidable (p i)} {d' : ∀ i, Decidable (q i)} : ∀ {n : Nat}, (∀ i, i < n → (p i ↔ q i)) → cntP p d n = cntP q d' n
  | 0, _ => rfl
  | n + 1, h => by
    unfold cntP
    rw [cntP_congr (fun i hi => h i (by omega))]
    congr 1
    by_cases e : p n
    · rw [if_pos e, if_pos ((h n (by omega)).mp e)]
    · rw [if_neg e, if_neg (fun z => e ((h n (by omega)).mpr z))]
theorem cntP_le {p : Nat → Prop} {d : ∀ i, Decidable (p i)} : ∀ n : Nat, cntP p d n ≤ n
  | 0 => Nat.le_refl _
  | n + 1 => by
    unfold cntP
    have := cntP_le (p := p) (d := d) n
    split <;> omega
theorem api_node : apiI 89 143 [] := by
  intro k σ hk h
  obtain ⟨hw1, hw2, hw⟩ := h.nc
  rw [eX11_node 60]
  have e10 : (10 : Int32) = nI 10 := by decide
  generalize hnn : gN σ 3 = nn at hw1 hw2 hw
  by_cases hn : nn < 10
  · have h1 : nI nn < 10 := by rw [e10]; exact nI_lt hn (by omega)
    simp only [am_run_s, bt, lf, am_in, am_ar, am_fit, am_ld, am_ct, Nat.reduceLT, Nat.reduceEqDiff, reduceIte, Nat.reduceAdd, Nat.reduceLeDiff, Nat.reduceSub, Bool.false_eq_true, if_true, if_false, ite_true, ite_false, List.length_cons, List.length_nil, Nat.zero_add, Nat.add_zero, and_true, true_and, true_or, or_true, and_self, Nat.le_refl, Nat.lt_irrefl, gI_sI, gL_sL, gQ_sQ, gI_sJ, gI_sL, gI_sQ, gL_sI, gL_sQ, gL_sJ, gQ_sI, gQ_sL, gQ_sJ, gN_sI, gN_sL, gN_sQ, gN_sJ, E_cV_a, E_cV_b, E_c_0, E_getI_0, E_getR_0, E_jl_0, E_kk, E_ldR_a, E_ldR_b, E_rI_0, am_cc, am_pop, am_rt, am_v, am_vo, am_vs, cC_11, cC_6, rR_1200, kX11_node, hw1, h1, Nat.zero_lt_one, cC_6, cC_11, ↓s_addNode σ _ nn hn hnn hw1]
    rw [eX12_node 60]
    have h2 : ¬ nI nn = 10 := by
      intro z
      have : nn = 10 := (nI_eq (by omega) (by omega)).mp (by rw [z, e10])
      omega
    have hp : nI (nn + 1) - 1 = nI nn := nI_pred nn
    simp only [am_run_s, bt, lf, am_in, am_ar, am_fit, am_ld, am_ct, Nat.reduceLT, Nat.reduceEqDiff, reduceIte, Nat.reduceAdd, Nat.reduceLeDiff, Nat.reduceSub, Bool.false_eq_true, if_true, if_false, ite_true, ite_false, List.length_cons, List.length_nil, Nat.zero_add, Nat.add_zero, and_true, true_and, true_or, or_true, and_self, Nat.le_refl, Nat.lt_irrefl, gI_sI, gL_sL, gQ_sQ, gI_sJ, gI_sL, gI_sQ, gL_sI, gL_sQ, gL_sJ, gQ_sI, gQ_sL, gQ_sJ, gN_sI, gN_sL, gN_sQ, gN_sJ, E_b2_0, E_cV_a, E_cV_b, E_c_0, E_dup_0, E_dup_1, E_getI_0, E_je_0, E_kk, E_ldR_a, E_ldR_b, E_putI_0, E_rI_0, am_cc, am_pop, am_rt, cC_12, kX12_node, gI_sO, gN_sO, Nat.reduceDiv, hw2, h2, nI_1, hp]
    have hz := h.1.2.2.2.2 nn (by omega)
    refine ⟨⟨_, rfl, rfl⟩, ⟨⟨by show nn + 1 ≤ 10; omega, h.1.1.2.1, rfl, rfl, h.1.1.2.2.2.2.1, h.1.1.2.2.2.2.2⟩, h.1.2.1, ?_, h.1.2.2.2.1, ?_⟩, ⟨h.2.1.1, ?_, h.2.1.2.2⟩, ⟨h.2.2.1.1, h.2.2.1.2.1, h.2.2.1.2.2.1.up, h.2.2.1.2.2.2.1, h.2.2.1.2.2.2.2.1, h.2.2.1.2.2.2.2.2.1, ?_, h.2.2.1.2.2.2.2.2.2.2⟩, h.2.2.2⟩
    · intro i hi
      have hi : i < nn + 1 := hi
      simp only [gI_sI, gL_sL, gQ_sQ, gI_sJ, gI_sL, gI_sQ, gL_sI, gL_sQ, gL_sJ, gQ_sI, gQ_sL, gQ_sJ, gN_sI, gN_sL, gN_sQ, gN_sJ, Nat.reduceLT, Nat.reduceEqDiff, reduceIte, Nat.reduceAdd, Nat.reduceLeDiff, Nat.reduceSub, Bool.false_eq_true, if_true, if_false, ite_true, ite_false, List.length_cons, List.length_nil, Nat.zero_add, Nat.add_zero, and_true, true_and, true_or, or_true, and_self, Nat.le_refl, Nat.lt_irrefl, gI_sO, gQ_sO, gL_sO, Nat.reduceDiv]
      by_cases e : i = nn
      · subst e
        simp only [reduceIte, hz.1, hz.2.1, hz.2.2]
        simp
      · simp only [e, reduceIte]
        exact h.1.2.2.1 i (by omega)
    · intro i hi
      have hi : nn + 1 ≤ i := hi
      exact h.1.2.2.2.2 i (by omega)
    · intro i hi
      obtain ⟨hh, q1, q2, q3⟩ := h.2.1.2.1 i hi
      exact ⟨hh, by show hh < nn + 1; omega, q2, q3⟩
    · have ho := h.2.2.1.2.2.2.2.2.2.1
      refine ⟨ho.1, ho.2.1, ho.2.2.1, ho.2.2.2.1, ?_, ho.2.2.2.2.2⟩
      have hq := ho.2.2.2.2.1
      rw [hnn] at hq
      show gI σ 1014 0 = nI (cntP (fun i => ¬ gI σ 34 i < 256) (fun _ => inferInstance) (nn + 1))
      rw [hq, cntP_s, if_neg (by rw [hz.1]; decide)]
      rfl
  · have hn10 : nn = 10 := by omega
    subst hn10
    have h1 : ¬ nI 10 < 10 := by decide
    simp only [am_run_s, bt, lf, am_in, am_ar, am_fit, am_ld, am_ct, Nat.reduceLT, Nat.reduceEqDiff, reduceIte, Nat.reduceAdd, Nat.reduceLeDiff, Nat.reduceSub, Bool.false_eq_true, if_true, if_false, ite_true, ite_false, List.length_cons, List.length_nil, Nat.zero_add, Nat.add_zero, and_true, true_and, true_or, or_true, and_self, Nat.le_refl, Nat.lt_irrefl, gI_sI, gL_sL, gQ_sQ, gI_sJ, gI_sL, gI_sQ, gL_sI, gL_sQ, gL_sJ, gQ_sI, gQ_sL, gQ_sJ, gN_sI, gN_sL, gN_sQ, gN_sJ, E_cV_a, E_cV_b, E_c_0, E_getI_0, E_getR_0, E_jl_0, E_kk, E_ldR_a, E_ldR_b, E_rI_0, am_cc, am_pop, am_rt, am_v, am_vo, am_vs, cC_11, cC_6, rR_1200, kX11_node, hw1, h1, ↓s_refuse8]
    rw [eX12_node 60]
    have h2 : nI 10 = 10 := by decide
    simp only [am_run_s, bt, lf, am_in, am_ar, am_fit, am_ld, am_ct, Nat.reduceLT, Nat.reduceEqDiff, reduceIte, Nat.reduceAdd, Nat.reduceLeDiff, Nat.reduceSub, Bool.false_eq_true, if_true, if_false, ite_true, ite_false, List.length_cons, List.length_nil, Nat.zero_add, Nat.add_zero, and_true, true_and, true_or, or_true, and_self, Nat.le_refl, Nat.lt_irrefl, gI_sI, gL_sL, gQ_sQ, gI_sJ, gI_sL, gI_sQ, gL_sI, gL_sQ, gL_sJ, gQ_sI, gQ_sL, gQ_sJ, gN_sI, gN_sL, gN_sQ, gN_sJ, E_b2_0, E_cV_a, E_cV_b, E_c_0, E_dup_0, E_dup_1, E_getI_0, E_je_0, E_kk, E_ldR_a, E_ldR_b, E_putI_0, E_rI_0, am_cc, am_pop, am_rt, cC_12, kX12_node, hw2, h2, gI_sI, Nat.reduceEqDiff, reduceIte, ↓s_no8]
    exact ⟨⟨_, rfl, rfl⟩, h.refuse⟩
