/-! ===== keys; what is asked of words, nodes, the wire, the reading ===== -/
theorem kk_hi : ∀ h : Nat, h < 2048 → (((nI h <<< ((1 : Int32) &&& 31)) ||| 1) <<< ((18 : Int32) &&& 31)) = ((nI h <<< ((19 : Int32) &&& 31)) ||| 262144) := by decide +kernel
theorem kI_kX (r : Nat) (h : r < 536872960) : kI (nI r) = kX (nI r) := by
  unfold kI kX
  by_cases h1 : nI r < 2048
  · rw [if_pos h1, if_pos h1]
  · rw [if_neg h1, if_neg h1]
    have e : (2048 : Int32) = nI 2048 := by decide
    have hr : 2048 ≤ r := by
      rcases Nat.lt_or_ge r 2048 with q | q
      · exact absurd (by rw [e]; exact nI_lt q (by omega)) h1
      · exact q
    have e1 : nI r - 2048 = nI (r - 2048) := by rw [e]; exact pk_sub hr
    rw [e1]
    have e2 : nI (r - 2048) >>> ((18 : Int32) &&& 31) = nI ((r - 2048) / 2 ^ 18) := pk_shrN (by omega) _ 18 (by decide)
    have e3 : ((nI (r - 2048)).toUInt32 >>> (Int32.toUInt32 18 &&& Int32.toUInt32 31)).toInt32 = nI ((r - 2048) / 2 ^ 18) := pk_ushrN (by omega) 18 18 (by decide)
    rw [e2, e3]
    rw [kk_hi ((r - 2048) / 2 ^ 18) (by omega)]
theorem Inv.key {k : Nat} {σ : HS} (h : Inv k σ) {j : Nat} (hj : j < gN σ 10) : kX (gI σ 1102 j) = kI (gI σ 38 j) := by
  obtain ⟨h1, r, h2, h3⟩ := h.2.1.2.2.1.1 j hj
  rw [h1, h2, kI_kX r h3]
theorem Q_ite (Q : PO) (σ : HS) (p : Prop) (d : Decidable p) (a b : Int32) : Q (some (.inl (@ite _ p d a b))) σ ↔ (if p then Q (some (.inl a)) σ else Q (some (.inl b)) σ) := by
  by_cases h : p <;> simp [h]
def waX (σ : HS) (j : Nat) (w : Int32) : Int32 := if w = 1 then gI σ 1102 j else if w = 2 then gI σ 1103 j else if w = 3 then gI σ 1104 j else if w = 4 then gI σ 1105 j else if w = 5 then gI σ 1106 j else if w = 6 then gI σ 1107 j else if w = 7 then gI σ 1108 j else if w = 8 then (if gI σ 1110 j = 0 then 0 else 1) else if w = 9 then gI σ 1112 j else if w = 10 then gI σ 1113 j else gI σ 1114 j
theorem s_wordAnswer (j h : Nat) (w : Int32) (σ : HS) (Q : PO) (hj : j < gN σ 10) (hh : gQ σ 1101 j = some (3, h)) (h3 : h < gN σ 3) : MM 87 [.inr (.inr (some (10, j))), .inl w] σ Q ↔ Q (some (.inl (if w = 0 then gI σ 400 h else waX σ j w))) σ := by
  rw [eX10_answer 60]
  simp only [am_run_s, bt, lf, am_in, am_ar, am_fit, am_ld, am_ct, Nat.reduceLT, Nat.reduceEqDiff, reduceIte, Nat.reduceAdd, Nat.reduceLeDiff, Nat.reduceSub, Bool.false_eq_true, if_true, if_false, ite_true, ite_false, List.length_cons, List.length_nil, Nat.zero_add, Nat.add_zero, and_true, true_and, true_or, or_true, and_self, Nat.le_refl, Nat.lt_irrefl, gI_sI, gL_sL, gQ_sQ, gI_sJ, gI_sL, gI_sQ, gL_sI, gL_sQ, gL_sJ, gQ_sI, gQ_sL, gQ_sJ, gN_sI, gN_sL, gN_sQ, gN_sJ, E_c_0, E_getI_0, E_getR_0, E_jmp_0, E_jz_0, E_ldI_a, E_ldI_b, E_ldR_a, E_ldR_b, E_rI_0, E_sw_0, E_sw_c, E_sw_n, cC_10, cC_3, rQ_1101, kX10_answer, hj, hh, h3, cC_3, waX, Q_ite]
theorem api_of (x w : Int32) : apiI 95 149 [.inl x, .inl w] := by
  intro k σ hk h
  obtain ⟨hw1, hw2, hw⟩ := h.wc
  rw [eX11_of 60]
  rcases ix x (n := gN σ 10) (by omega) with ⟨j, hj, rfl⟩ | hx
  · have h1 := nI_f (j := j) (by omega)
    have h2 := nI_t hj (by omega)
    have h3 : vp_in (nI j) 24 := vp_in_nI (by omega) (by omega)
    have h4 : (nI j).toNatClampNeg = j := nI_clamp (by omega)
    have hq := h.2.1.1 j hj
    obtain ⟨hm, hm1, hm2, hm3⟩ := h.2.1.2.1 j hj
    by_cases hb : ¬ w < 0 ∧ ¬ 11 < w
    · simp only [am_run_s, bt, lf, am_in, am_ar, am_fit, am_ld, am_ct, Nat.reduceLT, Nat.reduceEqDiff, reduceIte, Nat.reduceAdd, Nat.reduceLeDiff, Nat.reduceSub, Bool.false_eq_true, if_true, if_false, ite_true, ite_false, List.length_cons, List.length_nil, Nat.zero_add, Nat.add_zero, and_true, true_and, true_or, or_true, and_self, Nat.le_refl, Nat.lt_irrefl, gI_sI, gL_sL, gQ_sQ, gI_sJ, gI_sL, gI_sQ, gL_sI, gL_sQ, gL_sJ, gQ_sI, gQ_sL, gQ_sJ, gN_sI, gN_sL, gN_sQ, gN_sJ, E_aald_0, E_cS_a, E_cS_b, E_cV_a, E_cV_b, E_c_0, E_getR_0, E_jz_0, E_kk, E_ldI_a, E_ldI_b, E_ldR_a, E_ldR_b, E_rI_0, aL_91, am_cc, am_pop, am_rt, cC_10, cC_11, cC_6, cC_91, rQ_91, rR_1200, rR_701, sN_91, kX11_of, ↓s_hasWord, ↓s_isWithin, bI_z, not_true_eq_false, not_false_eq_true, hw1, h1, h2, h3, h4, hq.1, hj, hb, ↓s_wordAnswer j hm w σ _ hj hm2 hm1]
      rw [eX12_of 60]
      simp only [am_run_s, bt, lf, am_in, am_ar, am_fit, am_ld, am_ct, Nat.reduceLT, Nat.reduceEqDiff, reduceIte, Nat.reduceAdd, Nat.reduceLeDiff, Nat.reduceSub, Bool.false_eq_true, if_true, if_false, ite_true, ite_false, List.length_cons, List.length_nil, Nat.zero_add, Nat.add_zero, and_true, true_and, true_or, or_true, and_self, Nat.le_refl, Nat.lt_irrefl, gI_sI, gL_sL, gQ_sQ, gI_sJ, gI_sL, gI_sQ, gL_sI, gL_sQ, gL_sJ, gQ_sI, gQ_sL, gQ_sJ, gN_sI, gN_sL, gN_sQ, gN_sJ, E_bald_0, E_cV_a, E_cV_b, E_c_0, E_getR_0, E_iald_0, E_jmp_0, E_jz_0, E_kk, E_ldI_a, E_ldI_b, E_ldR_a, E_ldR_b, E_rI_0, E_sw_0, E_sw_c, E_sw_n, aL_37, aL_38, aL_39, aL_40, aL_41, aL_42, aL_43, aL_44, aL_49, aL_50, aL_51, aL_72, am_cc, am_pop, am_rt, cC_12, cC_37, cC_38, cC_39, cC_40, cC_41, cC_42, cC_43, cC_44, cC_49, cC_50, cC_51, cC_72, rR_1304, rR_1305, rR_1306, rR_1307, rR_1308, rR_1309, rR_1310, rR_1311, rR_1315, rR_1320, rR_1321, rR_1322, kX12_of, kX12_of_0, kX12_of_1, ↓s_isWord, bI_z, not_true_eq_false, not_false_eq_true, hw2, h1, h2, h3, h4, ↓s_no7]
      obtain ⟨n, hn, rfl⟩ : ∃ n : Nat, n < 12 ∧ w = nI n := by
        rcases pk_ix w (n := 12) (by omega) with q | q | ⟨n, q1, q2⟩
        · exact absurd q hb.1
        · exact absurd (by
            have e : nI 12 = 12 := by decide
            rw [e] at q
            have e11 : (11 : Int32).toInt = 11 := by decide
            have e12 : (12 : Int32).toInt = 12 := by decide
            rw [Int32.le_iff_toInt_le, e12] at q
            rw [Int32.lt_iff_toInt_lt, e11]; omega) hb.2
        · exact ⟨n, q1, q2⟩
      have hr := (h.2.1.2.2.1.1 j hj).1
      have hl := (h.2.1.2.2.2.1.1 j hj).1
      have hd := (h.2.1.2.2.2.2.1 j hj).1
      have ha := (h.2.2.1.1.1 j hj).1
      have ht := h.2.2.1.2.1.1 j hj
      have hno := (h.1.2.2.1 hm hm1).2.1
      have fin : ∀ v : Int32, v = gI σ 37 j → agI (some (.inl v)) (some (.inl (gI σ 37 j))) ∧ Inv (k + 1) σ := fun v e => ⟨⟨_, rfl, by rw [e]⟩, h.up⟩
      have e0 : nI 0 = 0 := by decide
      have e1 : nI 1 = 1 := by decide
      have e2 : nI 2 = 2 := by decide
      have e3 : nI 3 = 3 := by decide
      have e4 : nI 4 = 4 := by decide
      have e5 : nI 5 = 5 := by decide
      have e6 : nI 6 = 6 := by decide
      have e7 : nI 7 = 7 := by decide
      have e8 : nI 8 = 8 := by decide
      have e9 : nI 9 = 9 := by decide
      have e10 : nI 10 = 10 := by decide
      have e11 : nI 11 = 11 := by decide
      unfold waX
      rcases (show n = 0 ∨ n = 1 ∨ n = 2 ∨ n = 3 ∨ n = 4 ∨ n = 5 ∨ n = 6 ∨ n = 7 ∨ n = 8 ∨ n = 9 ∨ n = 10 ∨ n = 11 by omega) with rfl | rfl | rfl | rfl | rfl | rfl | rfl | rfl | rfl | rfl | rfl | rfl
      · rw [e0]; exact ⟨⟨_, rfl, by rw [if_pos rfl, hno, hm3]⟩, h.up⟩
      · rw [e1]; simp (decide := true) only [if_true, if_false]; exact ⟨⟨_, rfl, by rw [hr]⟩, h.up⟩
      · rw [e2]; simp (decide := true) only [if_true, if_false]; exact ⟨⟨_, rfl, by rw [hq.2.2.1]⟩, h.up⟩
      · rw [e3]; simp (decide := true) only [if_true, if_false]; exact ⟨⟨_, rfl, by rw [hq.2.2.2.1]⟩, h.up⟩
      · rw [e4]; simp (decide := true) only [if_true, if_false]; exact ⟨⟨_, rfl, by rw [hq.2.2.2.2.1]⟩, h.up⟩
      · rw [e5]; simp (decide := true) only [if_true, if_false]; exact ⟨⟨_, rfl, by rw [hq.2.2.2.2.2]⟩, h.up⟩
      · rw [e6]; simp (decide := true) only [if_true, if_false]; exact ⟨⟨_, rfl, by rw [hl]⟩, h.up⟩
      · rw [e7]; simp (decide := true) only [if_true, if_false]; exact ⟨⟨_, rfl, by rw [hd]⟩, h.up⟩
      · rw [e8]; simp (decide := true) only [if_true, if_false]
        rw [ha]
        by_cases q : gI σ 72 j = 0
        · rw [if_pos q, if_pos q]; exact ⟨⟨_, rfl, rfl⟩, h.up⟩
        · rw [if_neg q, if_neg q]; exact ⟨⟨_, rfl, rfl⟩, h.up⟩
      · rw [e9]; simp (decide := true) only [if_true, if_false]; exact ⟨⟨_, rfl, by rw [ht.1]⟩, h.up⟩
      · rw [e10]; simp (decide := true) only [if_true, if_false]; exact ⟨⟨_, rfl, by rw [ht.2.1]⟩, h.up⟩
      · rw [e11]; simp (decide := true) only [if_true, if_false]; exact ⟨⟨_, rfl, by rw [ht.2.2]⟩, h.up⟩
    · simp only [am_run_s, bt, lf, am_in, am_ar, am_fit, am_ld, am_ct, Nat.reduceLT, Nat.reduceEqDiff, reduceIte, Nat.reduceAdd, Nat.reduceLeDiff, Nat.reduceSub, Bool.false_eq_true, if_true, if_false, ite_true, ite_false, List.length_cons, List.length_nil, Nat.zero_add, Nat.add_zero, and_true, true_and, true_or, or_true, and_self, Nat.le_refl, Nat.lt_irrefl, gI_sI, gL_sL, gQ_sQ, gI_sJ, gI_sL, gI_sQ, gL_sI, gL_sQ, gL_sJ, gQ_sI, gQ_sL, gQ_sJ, gN_sI, gN_sL, gN_sQ, gN_sJ, E_aald_0, E_cS_a, E_cS_b, E_cV_a, E_cV_b, E_c_0, E_getR_0, E_jz_0, E_kk, E_ldI_a, E_ldI_b, E_ldR_a, E_ldR_b, E_rI_0, aL_91, am_cc, am_pop, am_rt, cC_10, cC_11, cC_6, cC_91, rQ_91, rR_1200, rR_701, sN_91, kX11_of, ↓s_hasWord, ↓s_isWithin, bI_z, not_true_eq_false, not_false_eq_true, hw1, h1, h2, hb, ↓s_refuse7]
      rw [eX12_of 60]
      simp only [am_run_s, bt, lf, am_in, am_ar, am_fit, am_ld, am_ct, Nat.reduceLT, Nat.reduceEqDiff, reduceIte, Nat.reduceAdd, Nat.reduceLeDiff, Nat.reduceSub, Bool.false_eq_true, if_true, if_false, ite_true, ite_false, List.length_cons, List.length_nil, Nat.zero_add, Nat.add_zero, and_true, true_and, true_or, or_true, and_self, Nat.le_refl, Nat.lt_irrefl, gI_sI, gL_sL, gQ_sQ, gI_sJ, gI_sL, gI_sQ, gL_sI, gL_sQ, gL_sJ, gQ_sI, gQ_sL, gQ_sJ, gN_sI, gN_sL, gN_sQ, gN_sJ, E_bald_0, E_cV_a, E_cV_b, E_c_0, E_getR_0, E_iald_0, E_jmp_0, E_jz_0, E_kk, E_ldI_a, E_ldI_b, E_ldR_a, E_ldR_b, E_rI_0, E_sw_0, E_sw_c, E_sw_n, aL_37, aL_38, aL_39, aL_40, aL_41, aL_42, aL_43, aL_44, aL_49, aL_50, aL_51, aL_72, am_cc, am_pop, am_rt, cC_12, cC_37, cC_38, cC_39, cC_40, cC_41, cC_42, cC_43, cC_44, cC_49, cC_50, cC_51, cC_72, rR_1304, rR_1305, rR_1306, rR_1307, rR_1308, rR_1309, rR_1310, rR_1311, rR_1315, rR_1320, rR_1321, rR_1322, kX12_of, kX12_of_0, kX12_of_1, ↓s_isWord, bI_z, not_true_eq_false, not_false_eq_true, hw2, h1, h2, h3, h4, ↓s_no7]
      have hne : ∀ v : Int32, ¬ v < 0 → ¬ 11 < v → ¬ w = v := fun v q1 q2 e => hb (by rw [e]; exact ⟨q1, q2⟩)
      rw [if_neg (hne 0 (by decide) (by decide)), if_neg (hne 1 (by decide) (by decide)), if_neg (hne 2 (by decide) (by decide)), if_neg (hne 3 (by decide) (by decide)), if_neg (hne 4 (by decide) (by decide)), if_neg (hne 5 (by decide) (by decide)), if_neg (hne 6 (by decide) (by decide)), if_neg (hne 7 (by decide) (by decide)), if_neg (hne 8 (by decide) (by decide)), if_neg (hne 9 (by decide) (by decide)), if_neg (hne 10 (by decide) (by decide)), if_neg (hne 11 (by decide) (by decide))]
      exact ⟨⟨_, rfl, rfl⟩, h.refuse⟩
  · simp only [am_run_s, bt, lf, am_in, am_ar, am_fit, am_ld, am_ct, Nat.reduceLT, Nat.reduceEqDiff, reduceIte, Nat.reduceAdd, Nat.reduceLeDiff, Nat.reduceSub, Bool.false_eq_true, if_true, if_false, ite_true, ite_false, List.length_cons, List.length_nil, Nat.zero_add, Nat.add_zero, and_true, true_and, true_or, or_true, and_self, Nat.le_refl, Nat.lt_irrefl, gI_sI, gL_sL, gQ_sQ, gI_sJ, gI_sL, gI_sQ, gL_sI, gL_sQ, gL_sJ, gQ_sI, gQ_sL, gQ_sJ, gN_sI, gN_sL, gN_sQ, gN_sJ, E_aald_0, E_cS_a, E_cS_b, E_cV_a, E_cV_b, E_c_0, E_getR_0, E_jz_0, E_kk, E_ldI_a, E_ldI_b, E_ldR_a, E_ldR_b, E_rI_0, aL_91, am_cc, am_pop, am_rt, cC_10, cC_11, cC_6, cC_91, rQ_91, rR_1200, rR_701, sN_91, kX11_of, ↓s_hasWord, bI_z, not_true_eq_false, not_false_eq_true, hw1, hx, ↓s_refuse3]
    rw [eX12_of 60]
    simp only [am_run_s, bt, lf, am_in, am_ar, am_fit, am_ld, am_ct, Nat.reduceLT, Nat.reduceEqDiff, reduceIte, Nat.reduceAdd, Nat.reduceLeDiff, Nat.reduceSub, Bool.false_eq_true, if_true, if_false, ite_true, ite_false, List.length_cons, List.length_nil, Nat.zero_add, Nat.add_zero, and_true, true_and, true_or, or_true, and_self, Nat.le_refl, Nat.lt_irrefl, gI_sI, gL_sL, gQ_sQ, gI_sJ, gI_sL, gI_sQ, gL_sI, gL_sQ, gL_sJ, gQ_sI, gQ_sL, gQ_sJ, gN_sI, gN_sL, gN_sQ, gN_sJ, E_bald_0, E_cV_a, E_cV_b, E_c_0, E_getR_0, E_iald_0, E_jmp_0, E_jz_0, E_kk, E_ldI_a, E_ldI_b, E_ldR_a, E_ldR_b, E_rI_0, E_sw_0, E_sw_c, E_sw_n, aL_37, aL_38, aL_39, aL_40, aL_41, aL_42, aL_43, aL_44, aL_49, aL_50, aL_51, aL_72, am_cc, am_pop, am_rt, cC_12, cC_37, cC_38, cC_39, cC_40, cC_41, cC_42, cC_43, cC_44, cC_49, cC_50, cC_51, cC_72, rR_1304, rR_1305, rR_1306, rR_1307, rR_1308, rR_1309, rR_1310, rR_1311, rR_1315, rR_1320, rR_1321, rR_1322, kX12_of, kX12_of_0, kX12_of_1, ↓s_isWord, bI_z, not_true_eq_false, not_false_eq_true, hw2, gN_sI, gI_sI, Nat.reduceEqDiff, reduceIte, hx, ↓s_no3]
    exact ⟨⟨_, rfl, rfl⟩, h.refuse⟩
