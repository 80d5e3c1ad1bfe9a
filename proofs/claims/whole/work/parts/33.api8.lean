/-! ===== count, log, node ===== -/
def wiX (σ : HS) (u f w : Int32) : Int32 := if w = 0 then gI σ 1004 0 else if w = 1 then gI σ 1006 0 else if w = 2 then gI σ 1007 0 else if w = 3 then u else if w = 4 then f else if w = 5 then gI σ 702 0 else if w = 6 then gI σ 703 0 else gI σ 501 0
theorem s_wireAnswerN (w : Int32) (σ : HS) (Q : PO) (hc : gQ σ 1008 0 = none) : MM 61 [.inr (.inr (some (9, 0))), .inl w] σ Q ↔ Q (some (.inl (wiX σ (-1) (gI σ 1005 0) w))) σ := by
  rw [eX9_answer 60]
  simp only [am_run_s, bt, lf, am_in, am_ar, am_fit, am_ld, am_ct, Nat.reduceLT, Nat.reduceEqDiff, reduceIte, Nat.reduceAdd, Nat.reduceLeDiff, Nat.reduceSub, Bool.false_eq_true, if_true, if_false, ite_true, ite_false, List.length_cons, List.length_nil, Nat.zero_add, Nat.add_zero, and_true, true_and, true_or, or_true, and_self, Nat.le_refl, Nat.lt_irrefl, gI_sI, gL_sL, gQ_sQ, gI_sJ, gI_sL, gI_sQ, gL_sI, gL_sQ, gL_sJ, gQ_sI, gQ_sL, gQ_sJ, gN_sI, gN_sL, gN_sQ, gN_sJ, E_c_0, E_getI_0, E_getR_0, E_jmp_0, E_jnull_0, E_jnull_1, E_ldI_a, E_ldI_b, E_ldR_a, E_ldR_b, E_rI_0, E_sw_0, E_sw_c, E_sw_n, cC_10, cC_4, cC_6, cC_9, rQ_1008, rR_1000, rR_1002, kX9_answer, hc, wiX, Q_ite]
theorem s_wireAnswerS (j : Nat) (w : Int32) (σ : HS) (Q : PO) (hc : gQ σ 1008 0 = some (10, j)) (hj : j < gN σ 10) : MM 61 [.inr (.inr (some (9, 0))), .inl w] σ Q ↔ Q (some (.inl (wiX σ (gI σ 1100 j) (-1) w))) σ := by
  rw [eX9_answer 60]
  simp only [am_run_s, bt, lf, am_in, am_ar, am_fit, am_ld, am_ct, Nat.reduceLT, Nat.reduceEqDiff, reduceIte, Nat.reduceAdd, Nat.reduceLeDiff, Nat.reduceSub, Bool.false_eq_true, if_true, if_false, ite_true, ite_false, List.length_cons, List.length_nil, Nat.zero_add, Nat.add_zero, and_true, true_and, true_or, or_true, and_self, Nat.le_refl, Nat.lt_irrefl, gI_sI, gL_sL, gQ_sQ, gI_sJ, gI_sL, gI_sQ, gL_sI, gL_sQ, gL_sJ, gQ_sI, gQ_sL, gQ_sJ, gN_sI, gN_sL, gN_sQ, gN_sJ, E_c_0, E_getI_0, E_getR_0, E_jmp_0, E_jnull_0, E_jnull_1, E_ldI_a, E_ldI_b, E_ldR_a, E_ldR_b, E_rI_0, E_sw_0, E_sw_c, E_sw_n, cC_10, cC_4, cC_6, cC_9, rQ_1008, rR_1000, rR_1002, kX9_answer, hc, hj, cC_10, wiX, Q_ite]
theorem api_count (w : Int32) : apiI 112 190 [.inl w] := by
  intro k σ hk h
  rw [eX11_count 60]
  by_cases hb : ¬ w < 0 ∧ ¬ 7 < w
  · have hwir := h.2.2.1.2.2.2.2.2.2.1
    obtain ⟨tk, t1, t2, t3⟩ := h.2.2.1.2.2.1
    obtain ⟨c, c0, c1, c2, -⟩ := h.2.2.1.2.2.2.2.2.2.2.2.1
    have hnc := h.nc
    have hwc := h.wc
    have main : ∀ u f : Int32, (u = gI σ 1344 0 ∧ f = if gI σ 1344 0 < 0 then gI σ 1343 0 else -1) → MM 190 [.inr (.inr (some (12, 0))), .inl w] σ (fun r2 σ'' => agI (some (.inl (wiX σ u f w))) r2 ∧ Inv (k + 1) σ'') := by
      intro u f hu
      obtain ⟨rfl, hf⟩ := hu
      have fin : ∀ v : Int32, wiX σ (gI σ 1344 0) f w = v → agI (some (.inl (wiX σ (gI σ 1344 0) f w))) (some (.inl v)) ∧ Inv (k + 1) σ := fun v e => ⟨⟨_, rfl, by rw [e]⟩, h.up⟩
      rw [eX12_count 60]
      simp only [am_run_s, bt, lf, am_in, am_ar, am_fit, am_ld, am_ct, Nat.reduceLT, Nat.reduceEqDiff, reduceIte, Nat.reduceAdd, Nat.reduceLeDiff, Nat.reduceSub, Bool.false_eq_true, if_true, if_false, ite_true, ite_false, List.length_cons, List.length_nil, Nat.zero_add, Nat.add_zero, and_true, true_and, true_or, or_true, and_self, Nat.le_refl, Nat.lt_irrefl, gI_sI, gL_sL, gQ_sQ, gI_sJ, gI_sL, gI_sQ, gL_sI, gL_sQ, gL_sJ, gQ_sI, gQ_sL, gQ_sJ, gN_sI, gN_sL, gN_sQ, gN_sJ, E_cV_a, E_cV_b, E_c_0, E_getI_0, E_jmp_0, E_jn_0, E_kk, E_ldI_a, E_ldI_b, E_ldR_a, E_ldR_b, E_rI_0, E_sw_0, E_sw_c, E_sw_n, am_cc, am_pop, am_rt, cC_12, kX12_count, ↓s_no7]
      unfold wiX at fin ⊢
      obtain ⟨n, hn, rfl⟩ : ∃ n : Nat, n < 8 ∧ w = nI n := by
        rcases pk_ix w (n := 8) (by omega) with q | q | ⟨n, q1, q2⟩
        · exact absurd q hb.1
        · exact absurd (by
            have e : nI 8 = 8 := by decide
            rw [e] at q
            have ea : (7 : Int32).toInt = 7 := by decide
            have eb : (8 : Int32).toInt = 8 := by decide
            rw [Int32.le_iff_toInt_le, eb] at q
            rw [Int32.lt_iff_toInt_lt, ea]; omega) hb.2
        · exact ⟨n, q1, q2⟩
      have e0 : nI 0 = 0 := by decide
      have e1 : nI 1 = 1 := by decide
      have e2 : nI 2 = 2 := by decide
      have e3 : nI 3 = 3 := by decide
      have e4 : nI 4 = 4 := by decide
      have e5 : nI 5 = 5 := by decide
      have e6 : nI 6 = 6 := by decide
      have e7 : nI 7 = 7 := by decide
      rcases (show n = 0 ∨ n = 1 ∨ n = 2 ∨ n = 3 ∨ n = 4 ∨ n = 5 ∨ n = 6 ∨ n = 7 by omega) with rfl | rfl | rfl | rfl | rfl | rfl | rfl | rfl
      · rw [e0] at fin ⊢; simp (decide := true) only [if_true, if_false] at fin ⊢; exact fin _ (by rw [t1, t2])
      · rw [e1] at fin ⊢; simp (decide := true) only [if_true, if_false] at fin ⊢; exact fin _ hwir.2.1
      · rw [e2] at fin ⊢; simp (decide := true) only [if_true, if_false] at fin ⊢; exact fin _ hwir.2.2.1
      · rw [e3] at fin ⊢; simp (decide := true) only [if_true, if_false] at fin ⊢; exact fin _ rfl
      · rw [e4] at fin ⊢; simp (decide := true) only [if_true, if_false] at fin ⊢
        by_cases q : gI σ 1344 0 < 0
        · rw [if_pos q] at hf; rw [if_pos q]; exact fin _ hf
        · rw [if_neg q] at hf; rw [if_neg q]; exact fin _ hf
      · rw [e5] at fin ⊢; simp (decide := true) only [if_true, if_false] at fin ⊢; exact fin _ (by rw [hnc.1, hnc.2.1])
      · rw [e6] at fin ⊢; simp (decide := true) only [if_true, if_false] at fin ⊢; exact fin _ (by rw [hwc.1, hwc.2.1])
      · rw [e7] at fin ⊢; simp (decide := true) only [if_true, if_false] at fin ⊢; exact fin _ (by rw [c1, c2])
    rcases h.2.2.1.2.2.2.2.2.2.2.1 with ⟨u1, u2⟩ | ⟨j, hh, u0, u1, u2, -⟩
    · simp only [am_run_s, bt, lf, am_in, am_ar, am_fit, am_ld, am_ct, Nat.reduceLT, Nat.reduceEqDiff, reduceIte, Nat.reduceAdd, Nat.reduceLeDiff, Nat.reduceSub, Bool.false_eq_true, if_true, if_false, ite_true, ite_false, List.length_cons, List.length_nil, Nat.zero_add, Nat.add_zero, and_true, true_and, true_or, or_true, and_self, Nat.le_refl, Nat.lt_irrefl, gI_sI, gL_sL, gQ_sQ, gI_sJ, gI_sL, gI_sQ, gL_sI, gL_sQ, gL_sJ, gQ_sI, gQ_sL, gQ_sJ, gN_sI, gN_sL, gN_sQ, gN_sJ, E_cS_a, E_cS_b, E_cV_a, E_cV_b, E_c_0, E_getR_0, E_jz_0, E_kk, E_ldI_a, E_ldI_b, E_ldR_a, E_ldR_b, E_rI_0, am_cc, am_pop, am_rt, cC_11, cC_9, rR_1204, kX11_count, ↓s_isWithin, bI_z, not_true_eq_false, not_false_eq_true, hb, ↓s_wireAnswerN w σ _ u1]
      exact main _ _ ⟨u2.symm, by rw [u2, if_pos (by decide)]; exact hwir.1⟩
    · simp only [am_run_s, bt, lf, am_in, am_ar, am_fit, am_ld, am_ct, Nat.reduceLT, Nat.reduceEqDiff, reduceIte, Nat.reduceAdd, Nat.reduceLeDiff, Nat.reduceSub, Bool.false_eq_true, if_true, if_false, ite_true, ite_false, List.length_cons, List.length_nil, Nat.zero_add, Nat.add_zero, and_true, true_and, true_or, or_true, and_self, Nat.le_refl, Nat.lt_irrefl, gI_sI, gL_sL, gQ_sQ, gI_sJ, gI_sL, gI_sQ, gL_sI, gL_sQ, gL_sJ, gQ_sI, gQ_sL, gQ_sJ, gN_sI, gN_sL, gN_sQ, gN_sJ, E_cS_a, E_cS_b, E_cV_a, E_cV_b, E_c_0, E_getR_0, E_jz_0, E_kk, E_ldI_a, E_ldI_b, E_ldR_a, E_ldR_b, E_rI_0, am_cc, am_pop, am_rt, cC_11, cC_9, rR_1204, kX11_count, ↓s_isWithin, bI_z, not_true_eq_false, not_false_eq_true, hb, ↓s_wireAnswerS j w σ _ u1 u0]
      have hwc3 := hwc.2.2
      exact main _ _ ⟨by rw [u2, (h.2.1.1 j u0).2.1], by rw [u2, if_neg (nI_pos (by omega))]⟩
  · simp only [am_run_s, bt, lf, am_in, am_ar, am_fit, am_ld, am_ct, Nat.reduceLT, Nat.reduceEqDiff, reduceIte, Nat.reduceAdd, Nat.reduceLeDiff, Nat.reduceSub, Bool.false_eq_true, if_true, if_false, ite_true, ite_false, List.length_cons, List.length_nil, Nat.zero_add, Nat.add_zero, and_true, true_and, true_or, or_true, and_self, Nat.le_refl, Nat.lt_irrefl, gI_sI, gL_sL, gQ_sQ, gI_sJ, gI_sL, gI_sQ, gL_sI, gL_sQ, gL_sJ, gQ_sI, gQ_sL, gQ_sJ, gN_sI, gN_sL, gN_sQ, gN_sJ, E_cS_a, E_cS_b, E_cV_a, E_cV_b, E_c_0, E_getR_0, E_jz_0, E_kk, E_ldI_a, E_ldI_b, E_ldR_a, E_ldR_b, E_rI_0, am_cc, am_pop, am_rt, cC_11, cC_9, rR_1204, kX11_count, ↓s_isWithin, bI_z, not_true_eq_false, not_false_eq_true, hb, ↓s_refuse7]
    rw [eX12_count 60]
    simp only [am_run_s, bt, lf, am_in, am_ar, am_fit, am_ld, am_ct, Nat.reduceLT, Nat.reduceEqDiff, reduceIte, Nat.reduceAdd, Nat.reduceLeDiff, Nat.reduceSub, Bool.false_eq_true, if_true, if_false, ite_true, ite_false, List.length_cons, List.length_nil, Nat.zero_add, Nat.add_zero, and_true, true_and, true_or, or_true, and_self, Nat.le_refl, Nat.lt_irrefl, gI_sI, gL_sL, gQ_sQ, gI_sJ, gI_sL, gI_sQ, gL_sI, gL_sQ, gL_sJ, gQ_sI, gQ_sL, gQ_sJ, gN_sI, gN_sL, gN_sQ, gN_sJ, E_cV_a, E_cV_b, E_c_0, E_getI_0, E_jmp_0, E_jn_0, E_kk, E_ldI_a, E_ldI_b, E_ldR_a, E_ldR_b, E_rI_0, E_sw_0, E_sw_c, E_sw_n, am_cc, am_pop, am_rt, cC_12, kX12_count, ↓s_no7]
    have hne : ∀ v : Int32, ¬ v < 0 → ¬ 7 < v → ¬ w = v := fun v q1 q2 e => hb (by rw [e]; exact ⟨q1, q2⟩)
    rw [if_neg (hne 0 (by decide) (by decide)), if_neg (hne 1 (by decide) (by decide)), if_neg (hne 2 (by decide) (by decide)), if_neg (hne 3 (by decide) (by decide)), if_neg (hne 4 (by decide) (by decide)), if_neg (hne 5 (by decide) (by decide)), if_neg (hne 6 (by decide) (by decide)), if_neg (hne 7 (by decide) (by decide))]
    exact ⟨⟨_, rfl, rfl⟩, h.refuse⟩

theorem log_at (nx i : Nat) (hnx : nx < 40) (hi : i < 40) : nI nx - 1 - nI i + 80 = nI (nx + 79 - i) := by
  have e1 : (80 : Int32) = nI 80 := by decide
  have e2 : (1 : Int32) = nI 1 := by decide
  apply Int32.toInt_inj.mp
  rw [nI_toInt (by omega), Int32.toInt_add, Int32.toInt_sub, Int32.toInt_sub, e1, e2, nI_toInt (by omega), nI_toInt (by omega), nI_toInt (by omega), nI_toInt (by omega)]
  rw [Int.bmod_eq_of_le (n := (nx : Int) - (1 : Nat)) (by omega) (by omega), Int.bmod_eq_of_le (n := (nx : Int) - (1 : Nat) - i) (by omega) (by omega), Int.bmod_eq_of_le (by omega) (by omega)]
  omega
theorem s_logAnswer (nx i : Nat) (w : Int32) (σ : HS) (Q : PO) (hnx : nx < 40) (hi : i < 40) (hn : gI σ 305 0 = nI nx) : MM 24 [.inr (.inr (some (2, 0))), .inl (nI i), .inl w] σ Q ↔ Q (some (.inl (if w = 0 then gI σ 26 ((nx + 79 - i) % 40) else if w = 1 then gI σ 27 ((nx + 79 - i) % 40) else if w = 2 then gI σ 28 ((nx + 79 - i) % 40) else gI σ 29 ((nx + 79 - i) % 40)))) σ := by
  rw [eX2_answer 60]
  have h40 : ¬ (40 : Int32) = 0 := by decide
  have e40 : (40 : Int32) = nI 40 := by decide
  have hr : nI (nx + 79 - i) - nI (nx + 79 - i) / 40 * 40 = nI ((nx + 79 - i) % 40) := by rw [e40]; exact pk_rem (by omega) (by omega) (by omega)
  have hlt : (nx + 79 - i) % 40 < 40 := Nat.mod_lt _ (by omega)
  have h3 : vp_in (nI ((nx + 79 - i) % 40)) 40 := vp_in_nI hlt (by omega)
  have h4 : (nI ((nx + 79 - i) % 40)).toNatClampNeg = (nx + 79 - i) % 40 := nI_clamp (by omega)
  simp only [am_run_s, bt, lf, am_in, am_ar, am_fit, am_ld, am_ct, Nat.reduceLT, Nat.reduceEqDiff, reduceIte, Nat.reduceAdd, Nat.reduceLeDiff, Nat.reduceSub, Bool.false_eq_true, if_true, if_false, ite_true, ite_false, List.length_cons, List.length_nil, Nat.zero_add, Nat.add_zero, and_true, true_and, true_or, or_true, and_self, Nat.le_refl, Nat.lt_irrefl, gI_sI, gL_sL, gQ_sQ, gI_sJ, gI_sL, gI_sQ, gL_sI, gL_sQ, gL_sJ, gQ_sI, gQ_sL, gQ_sJ, gN_sI, gN_sL, gN_sQ, gN_sJ, E_b2_0, E_b2n_0, E_c_0, E_getI_0, E_getR_0, E_iald_0, E_ldI_a, E_ldI_b, E_ldR_a, E_ldR_b, E_rI_0, E_stI_0, E_sw_0, E_sw_c, E_sw_n, aL_26, aL_27, aL_28, aL_29, am_nl, am_ok, am_set, cC_2, cC_26, cC_27, cC_28, cC_29, rR_300, rR_301, rR_302, rR_303, kX2_answer, hn, log_at nx i hnx hi, h40, hr, h3, h4, Q_ite, not_false_eq_true, true_and]
theorem api_log (x w : Int32) : apiI 113 191 [.inl x, .inl w] := by
  intro k σ hk h
  obtain ⟨kp, nx, hkp, hnx, hw1, hw2, hn, hl⟩ := h.2.2.1.2.2.2.2.2.2.2.2.2
  rw [eX11_log 60]
  rcases ix' x (n := kp) (by omega) with ⟨j, hj, rfl⟩ | ⟨hx, hx'⟩
  · have h1 := nI_f (j := j) (by omega)
    have h2 := nI_t hj (by omega)
    have h2' := nI_l1 hj (by omega)
    have h3 : vp_in (nI j) 40 := vp_in_nI (by omega) (by omega)
    have h4 : (nI j).toNatClampNeg = j := nI_clamp (by omega)
    obtain ⟨l0, l1, l2, l3⟩ := hl j hj
    by_cases hb : ¬ w < 0 ∧ ¬ 3 < w
    · simp only [am_run_s, bt, lf, am_in, am_ar, am_fit, am_ld, am_ct, Nat.reduceLT, Nat.reduceEqDiff, reduceIte, Nat.reduceAdd, Nat.reduceLeDiff, Nat.reduceSub, Bool.false_eq_true, if_true, if_false, ite_true, ite_false, List.length_cons, List.length_nil, Nat.zero_add, Nat.add_zero, and_true, true_and, true_or, or_true, and_self, Nat.le_refl, Nat.lt_irrefl, gI_sI, gL_sL, gQ_sQ, gI_sJ, gI_sL, gI_sQ, gL_sI, gL_sQ, gL_sJ, gQ_sI, gQ_sL, gQ_sJ, gN_sI, gN_sL, gN_sQ, gN_sJ, E_cS_a, E_cS_b, E_cV_a, E_cV_b, E_c_0, E_getR_0, E_jz_0, E_kk, E_ldI_a, E_ldI_b, E_ldR_a, E_ldR_b, E_rI_0, am_cc, am_pop, am_rt, cC_11, cC_2, cC_9, rR_1003, rR_1204, kX11_log, ↓s_hasEntry, ↓s_isWithin, bI_z, not_true_eq_false, not_false_eq_true, hw1, h1, h2, hb, ↓s_logAnswer nx j w σ _ hnx (show j < 40 by omega) hn]
      rw [eX12_log 60]
      simp only [am_run_s, bt, lf, am_in, am_ar, am_fit, am_ld, am_ct, Nat.reduceLT, Nat.reduceEqDiff, reduceIte, Nat.reduceAdd, Nat.reduceLeDiff, Nat.reduceSub, Bool.false_eq_true, if_true, if_false, ite_true, ite_false, List.length_cons, List.length_nil, Nat.zero_add, Nat.add_zero, and_true, true_and, true_or, or_true, and_self, Nat.le_refl, Nat.lt_irrefl, gI_sI, gL_sL, gQ_sQ, gI_sJ, gI_sL, gI_sQ, gL_sI, gL_sQ, gL_sJ, gQ_sI, gQ_sL, gQ_sJ, gN_sI, gN_sL, gN_sQ, gN_sJ, E_b2_0, E_cS_a, E_cS_b, E_cV_a, E_cV_b, E_c_0, E_getI_0, E_getR_0, E_i2l_0, E_iald_0, E_jz_0, E_kk, E_ldI_a, E_ldI_b, E_ldR_a, E_ldR_b, E_rI_0, E_sw_0, E_sw_c, E_sw_n, aL_55, aL_56, aL_57, aL_58, am_cc, am_pop, am_rt, cC_12, cC_55, cC_56, cC_57, cC_58, rR_1353, rR_1354, rR_1355, rR_1356, kX12_log, ↓s_isIn0, bI_z, not_true_eq_false, not_false_eq_true, hw2, h1, h2', h3, h4, ↓s_no7]
      obtain ⟨n, hn, rfl⟩ : ∃ n : Nat, n < 4 ∧ w = nI n := by
        rcases pk_ix w (n := 4) (by omega) with q | q | ⟨n, q1, q2⟩
        · exact absurd q hb.1
        · exact absurd (by
            have e : nI 4 = 4 := by decide
            rw [e] at q
            have ea : (3 : Int32).toInt = 3 := by decide
            have eb : (4 : Int32).toInt = 4 := by decide
            rw [Int32.le_iff_toInt_le, eb] at q
            rw [Int32.lt_iff_toInt_lt, ea]; omega) hb.2
        · exact ⟨n, q1, q2⟩
      have e0 : nI 0 = 0 := by decide
      have e1 : nI 1 = 1 := by decide
      have e2 : nI 2 = 2 := by decide
      have e3 : nI 3 = 3 := by decide
      rcases (show n = 0 ∨ n = 1 ∨ n = 2 ∨ n = 3 by omega) with rfl | rfl | rfl | rfl
      · rw [e0]; simp (decide := true) only [if_true, if_false]; exact ⟨⟨_, rfl, by rw [l0]⟩, h.up⟩
      · rw [e1]; simp (decide := true) only [if_true, if_false]; exact ⟨⟨_, rfl, by rw [l1]⟩, h.up⟩
      · rw [e2]; simp (decide := true) only [if_true, if_false]; exact ⟨⟨_, rfl, by rw [l2]⟩, h.up⟩
      · rw [e3]; simp (decide := true) only [if_true, if_false]; exact ⟨⟨_, rfl, by rw [l3]⟩, h.up⟩
    · simp only [am_run_s, bt, lf, am_in, am_ar, am_fit, am_ld, am_ct, Nat.reduceLT, Nat.reduceEqDiff, reduceIte, Nat.reduceAdd, Nat.reduceLeDiff, Nat.reduceSub, Bool.false_eq_true, if_true, if_false, ite_true, ite_false, List.length_cons, List.length_nil, Nat.zero_add, Nat.add_zero, and_true, true_and, true_or, or_true, and_self, Nat.le_refl, Nat.lt_irrefl, gI_sI, gL_sL, gQ_sQ, gI_sJ, gI_sL, gI_sQ, gL_sI, gL_sQ, gL_sJ, gQ_sI, gQ_sL, gQ_sJ, gN_sI, gN_sL, gN_sQ, gN_sJ, E_cS_a, E_cS_b, E_cV_a, E_cV_b, E_c_0, E_getR_0, E_jz_0, E_kk, E_ldI_a, E_ldI_b, E_ldR_a, E_ldR_b, E_rI_0, am_cc, am_pop, am_rt, cC_11, cC_2, cC_9, rR_1003, rR_1204, kX11_log, ↓s_hasEntry, ↓s_isWithin, bI_z, not_true_eq_false, not_false_eq_true, hw1, h1, h2, hb, ↓s_refuse7]
      rw [eX12_log 60]
      simp only [am_run_s, bt, lf, am_in, am_ar, am_fit, am_ld, am_ct, Nat.reduceLT, Nat.reduceEqDiff, reduceIte, Nat.reduceAdd, Nat.reduceLeDiff, Nat.reduceSub, Bool.false_eq_true, if_true, if_false, ite_true, ite_false, List.length_cons, List.length_nil, Nat.zero_add, Nat.add_zero, and_true, true_and, true_or, or_true, and_self, Nat.le_refl, Nat.lt_irrefl, gI_sI, gL_sL, gQ_sQ, gI_sJ, gI_sL, gI_sQ, gL_sI, gL_sQ, gL_sJ, gQ_sI, gQ_sL, gQ_sJ, gN_sI, gN_sL, gN_sQ, gN_sJ, E_b2_0, E_cS_a, E_cS_b, E_cV_a, E_cV_b, E_c_0, E_getI_0, E_getR_0, E_i2l_0, E_iald_0, E_jz_0, E_kk, E_ldI_a, E_ldI_b, E_ldR_a, E_ldR_b, E_rI_0, E_sw_0, E_sw_c, E_sw_n, aL_55, aL_56, aL_57, aL_58, am_cc, am_pop, am_rt, cC_12, cC_55, cC_56, cC_57, cC_58, rR_1353, rR_1354, rR_1355, rR_1356, kX12_log, ↓s_isIn0, bI_z, not_true_eq_false, not_false_eq_true, hw2, h1, h2', h3, h4, gN_sI, gI_sI, Nat.reduceEqDiff, reduceIte, ↓s_no7]
      have hne : ∀ v : Int32, ¬ v < 0 → ¬ 3 < v → ¬ w = v := fun v q1 q2 e => hb (by rw [e]; exact ⟨q1, q2⟩)
      rw [if_neg (hne 0 (by decide) (by decide)), if_neg (hne 1 (by decide) (by decide)), if_neg (hne 2 (by decide) (by decide)), if_neg (hne 3 (by decide) (by decide))]
      exact ⟨⟨_, rfl, rfl⟩, h.refuse⟩
  · simp only [am_run_s, bt, lf, am_in, am_ar, am_fit, am_ld, am_ct, Nat.reduceLT, Nat.reduceEqDiff, reduceIte, Nat.reduceAdd, Nat.reduceLeDiff, Nat.reduceSub, Bool.false_eq_true, if_true, if_false, ite_true, ite_false, List.length_cons, List.length_nil, Nat.zero_add, Nat.add_zero, and_true, true_and, true_or, or_true, and_self, Nat.le_refl, Nat.lt_irrefl, gI_sI, gL_sL, gQ_sQ, gI_sJ, gI_sL, gI_sQ, gL_sI, gL_sQ, gL_sJ, gQ_sI, gQ_sL, gQ_sJ, gN_sI, gN_sL, gN_sQ, gN_sJ, E_cS_a, E_cS_b, E_cV_a, E_cV_b, E_c_0, E_getR_0, E_jz_0, E_kk, E_ldI_a, E_ldI_b, E_ldR_a, E_ldR_b, E_rI_0, am_cc, am_pop, am_rt, cC_11, cC_2, cC_9, rR_1003, rR_1204, kX11_log, ↓s_hasEntry, bI_z, not_true_eq_false, not_false_eq_true, hw1, hx, ↓s_refuse3]
    rw [eX12_log 60]
    simp only [am_run_s, bt, lf, am_in, am_ar, am_fit, am_ld, am_ct, Nat.reduceLT, Nat.reduceEqDiff, reduceIte, Nat.reduceAdd, Nat.reduceLeDiff, Nat.reduceSub, Bool.false_eq_true, if_true, if_false, ite_true, ite_false, List.length_cons, List.length_nil, Nat.zero_add, Nat.add_zero, and_true, true_and, true_or, or_true, and_self, Nat.le_refl, Nat.lt_irrefl, gI_sI, gL_sL, gQ_sQ, gI_sJ, gI_sL, gI_sQ, gL_sI, gL_sQ, gL_sJ, gQ_sI, gQ_sL, gQ_sJ, gN_sI, gN_sL, gN_sQ, gN_sJ, E_b2_0, E_cS_a, E_cS_b, E_cV_a, E_cV_b, E_c_0, E_getI_0, E_getR_0, E_i2l_0, E_iald_0, E_jz_0, E_kk, E_ldI_a, E_ldI_b, E_ldR_a, E_ldR_b, E_rI_0, E_sw_0, E_sw_c, E_sw_n, aL_55, aL_56, aL_57, aL_58, am_cc, am_pop, am_rt, cC_12, cC_55, cC_56, cC_57, cC_58, rR_1353, rR_1354, rR_1355, rR_1356, kX12_log, ↓s_isIn0, bI_z, not_true_eq_false, not_false_eq_true, hw2, gN_sI, gI_sI, Nat.reduceEqDiff, reduceIte, hx', ↓s_no3]
    exact ⟨⟨_, rfl, rfl⟩, h.refuse⟩

