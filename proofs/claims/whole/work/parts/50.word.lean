/-! ===== word: its pieces ===== -/
theorem am_run_z (cd : Nat → Bool × PT) (M : OR) (Q : PO) (pc : Nat) (ls : ALs) (st : List AV) (σ : HS) (a b : Nat) : am_run cd M Q 0 pc ls st σ a b = am_T cd M Q pc ls st σ a b := propext ⟨fun h => h, fun h => h⟩
theorem sI_id {σ : HS} {f i : Nat} {v : Int32} (h : gI σ f i = v) : sI σ f i v = σ := by
  obtain ⟨a, b, c, d⟩ := σ
  unfold sI
  dsimp only
  congr 2
  funext f' i'
  by_cases e : f' = f
  · rw [if_pos e]
    by_cases e2 : i' = i
    · rw [if_pos e2, e, e2]; exact h.symm
    · rw [if_neg e2]
  · rw [if_neg e]
theorem s_comesBy (i : Nat) (σ : HS) (Q : PO) (h : i < gN σ 10) : MM 78 [.inr (.inr (some (10, i)))] σ Q ↔ Q (some (.inl (bI (gI σ 1103 i = 0 ∨ gI σ 1103 i = 1) inferInstance))) σ := by
  rw [eX10_comesByTimes 12]
  simp only [am_run_s, bt, lf, am_in, am_ar, am_fit, am_ld, am_ct, Nat.reduceLT, Nat.reduceEqDiff, reduceIte, Nat.reduceAdd, Nat.reduceLeDiff, Nat.reduceSub, Bool.false_eq_true, if_true, if_false, ite_true, ite_false, List.length_cons, List.length_nil, Nat.zero_add, Nat.add_zero, and_true, true_and, true_or, or_true, and_self, Nat.le_refl, Nat.lt_irrefl, gI_sI, gL_sL, gQ_sQ, gI_sJ, gI_sL, gI_sQ, gL_sI, gL_sQ, gL_sJ, gQ_sI, gQ_sL, gQ_sJ, gN_sI, gN_sL, gN_sQ, gN_sJ, E_c_0, E_getI_0, E_je_0, E_jmp_0, E_jz_0, E_ldR_a, E_ldR_b, E_rZ_0, cC_10, kX10_comesByTimes, am_b0, am_b1, h]
  by_cases h1 : gI σ 1103 i = 0 <;> by_cases h2 : gI σ 1103 i = 1 <;> simp [bI, h1, h2]
theorem s_quotI (a d : Int32) (hd : 0 < d) (h0 : ¬ d = 0) (σ : HS) (Q : PO) : MM 133 [.inl a, .inl d] σ Q ↔ Q (some (.inl (a / d))) σ := by
  rw [eX11_quotient_ 40]
  simp only [am_run_s, bt, lf, am_in, am_ar, am_fit, am_ld, am_ct, Nat.reduceLT, Nat.reduceEqDiff, reduceIte, Nat.reduceAdd, Nat.reduceLeDiff, Nat.reduceSub, Bool.false_eq_true, if_true, if_false, ite_true, ite_false, List.length_cons, List.length_nil, Nat.zero_add, Nat.add_zero, and_true, true_and, true_or, or_true, and_self, Nat.le_refl, Nat.lt_irrefl, gI_sI, gL_sL, gQ_sQ, gI_sJ, gI_sL, gI_sQ, gL_sI, gL_sQ, gL_sJ, gQ_sI, gQ_sL, gQ_sJ, gN_sI, gN_sL, gN_sQ, gN_sJ, E_b2n_0, E_c_0, E_jmp_0, E_jp_0, E_ldI_a, E_ldI_b, E_rI_0, kX11_quotient_, hd, h0, not_false_eq_true]
theorem s_leave (w : Nat) (tk : Int32) (σ : HS) (Q : PO) (h : w < gN σ 10) (ht : 0 < gI σ 1105 w) (h0 : ¬ gI σ 1105 w = 0) : MM 77 [.inr (.inr (some (10, w))), .inl tk] σ Q ↔ Q none (sI σ 1115 w (if (gI σ 1103 w = 0 ∨ gI σ 1103 w = 1) ∧ gI σ 1106 w < tk then (tk - gI σ 1106 w + gI σ 1105 w - 1) / gI σ 1105 w else gI σ 1115 w)) := by
  rw [eX10_leaveOutBefore 23]
  by_cases h1 : gI σ 1103 w = 0 ∨ gI σ 1103 w = 1
  · by_cases h2 : gI σ 1106 w < tk
    · simp only [am_run_s, bt, lf, am_in, am_ar, am_fit, am_ld, am_ct, Nat.reduceLT, Nat.reduceEqDiff, reduceIte, Nat.reduceAdd, Nat.reduceLeDiff, Nat.reduceSub, Bool.false_eq_true, if_true, if_false, ite_true, ite_false, List.length_cons, List.length_nil, Nat.zero_add, Nat.add_zero, and_true, true_and, true_or, or_true, and_self, Nat.le_refl, Nat.lt_irrefl, gI_sI, gL_sL, gQ_sQ, gI_sJ, gI_sL, gI_sQ, gL_sI, gL_sQ, gL_sJ, gQ_sI, gQ_sL, gQ_sJ, gN_sI, gN_sL, gN_sQ, gN_sJ, E_b2_0, E_cS_a, E_cS_b, E_cV_a, E_cV_b, E_c_0, E_getI_0, E_jg_0, E_jz_0, E_kk, E_ldI_a, E_ldI_b, E_ldR_a, E_ldR_b, E_putI_0, E_rV_0, am_cc, am_pop, am_rt, cC_10, kX10_leaveOutBefore, ↓s_comesBy w σ _ h, bI_z, h, h1, h2, not_true_eq_false, not_false_eq_true, ↓s_quotI _ _ ht h0]
    · simp only [am_run_s, bt, lf, am_in, am_ar, am_fit, am_ld, am_ct, Nat.reduceLT, Nat.reduceEqDiff, reduceIte, Nat.reduceAdd, Nat.reduceLeDiff, Nat.reduceSub, Bool.false_eq_true, if_true, if_false, ite_true, ite_false, List.length_cons, List.length_nil, Nat.zero_add, Nat.add_zero, and_true, true_and, true_or, or_true, and_self, Nat.le_refl, Nat.lt_irrefl, gI_sI, gL_sL, gQ_sQ, gI_sJ, gI_sL, gI_sQ, gL_sI, gL_sQ, gL_sJ, gQ_sI, gQ_sL, gQ_sJ, gN_sI, gN_sL, gN_sQ, gN_sJ, E_b2_0, E_cS_a, E_cS_b, E_cV_a, E_cV_b, E_c_0, E_getI_0, E_jg_0, E_jz_0, E_kk, E_ldI_a, E_ldI_b, E_ldR_a, E_ldR_b, E_putI_0, E_rV_0, am_cc, am_pop, am_rt, cC_10, kX10_leaveOutBefore, ↓s_comesBy w σ _ h, bI_z, h, h1, h2, not_true_eq_false, not_false_eq_true, and_false, sI_id rfl]
  · simp only [am_run_s, bt, lf, am_in, am_ar, am_fit, am_ld, am_ct, Nat.reduceLT, Nat.reduceEqDiff, reduceIte, Nat.reduceAdd, Nat.reduceLeDiff, Nat.reduceSub, Bool.false_eq_true, if_true, if_false, ite_true, ite_false, List.length_cons, List.length_nil, Nat.zero_add, Nat.add_zero, and_true, true_and, true_or, or_true, and_self, Nat.le_refl, Nat.lt_irrefl, gI_sI, gL_sL, gQ_sQ, gI_sJ, gI_sL, gI_sQ, gL_sI, gL_sQ, gL_sJ, gQ_sI, gQ_sL, gQ_sJ, gN_sI, gN_sL, gN_sQ, gN_sJ, E_b2_0, E_cS_a, E_cS_b, E_cV_a, E_cV_b, E_c_0, E_getI_0, E_jg_0, E_jz_0, E_kk, E_ldI_a, E_ldI_b, E_ldR_a, E_ldR_b, E_putI_0, E_rV_0, am_cc, am_pop, am_rt, cC_10, kX10_leaveOutBefore, ↓s_comesBy w σ _ h, bI_z, h, h1, not_false_eq_true, false_and, sI_id rfl]
theorem s_wordInit (i a : Nat) (v r kd t f : Int32) (σ : HS) (Q : PO) (hi : i < gN σ 10) (ha : a < gN σ 3) : MM 76 [.inr (.inr (some (10, i))), .inl v, .inr (.inr (some (3, a))), .inl r, .inl kd, .inl t, .inl f] σ Q ↔ Q none (sI (sI (sI (sI (sI (sI (sQ (sI (sI (sI σ 1114 i (-1)) 1117 i (-1)) 1100 i v) 1101 i (some (3, a))) 1102 i r) 1103 i (kd / 10)) 1104 i (kd - kd / 10 * 10)) 1105 i t) 1106 i f) 1108 i t) := by
  rw [eX10_init 38]
  have h10 : ¬ (10 : Int32) = 0 := by decide
  simp only [am_run_s, bt, lf, am_in, am_ar, am_fit, am_ld, am_ct, Nat.reduceLT, Nat.reduceEqDiff, reduceIte, Nat.reduceAdd, Nat.reduceLeDiff, Nat.reduceSub, Bool.false_eq_true, if_true, if_false, ite_true, ite_false, List.length_cons, List.length_nil, Nat.zero_add, Nat.add_zero, and_true, true_and, true_or, or_true, and_self, Nat.le_refl, Nat.lt_irrefl, gI_sI, gL_sL, gQ_sQ, gI_sJ, gI_sL, gI_sQ, gL_sI, gL_sQ, gL_sJ, gQ_sI, gQ_sL, gQ_sJ, gN_sI, gN_sL, gN_sQ, gN_sJ, E_b2n_0, E_cO_0, E_c_0, E_ldI_a, E_ldI_b, E_ldR_a, E_ldR_b, E_putI_0, E_putR_0, E_rV_0, cC_10, sN_1101, kX10_init, hi, ha, h10, am_v, cC_3, not_false_eq_true]
theorem s_addWord (w : Nat) (hw : w < 24) (σ : HS) (Q : PO) (hg : w < gN σ 10) (hc : gI σ 703 0 = nI w) : MM 51 [.inr (.inr (some (6, 0))), .inr (.inr (some (10, w)))] σ Q ↔ Q none (sI (sQ σ 91 w (some (10, w))) 703 0 (nI (w + 1))) := by
  rw [eX6_addWord 18]
  have e24 : (24 : Int32) = nI 24 := by decide
  have h1 : nI w < 24 := by rw [e24]; exact nI_lt hw (by omega)
  have h3 : vp_in (nI w) 24 := vp_in_nI (by omega) (by omega)
  have h4 : (nI w).toNatClampNeg = w := nI_clamp (by omega)
  have e1091 : ¬ (91 = 90) := by decide
  simp only [am_run_s, bt, lf, am_in, am_ar, am_fit, am_ld, am_ct, Nat.reduceLT, Nat.reduceEqDiff, reduceIte, Nat.reduceAdd, Nat.reduceLeDiff, Nat.reduceSub, Bool.false_eq_true, if_true, if_false, ite_true, ite_false, List.length_cons, List.length_nil, Nat.zero_add, Nat.add_zero, and_true, true_and, true_or, or_true, and_self, Nat.le_refl, Nat.lt_irrefl, gI_sI, gL_sL, gQ_sQ, gI_sJ, gI_sL, gI_sQ, gL_sI, gL_sQ, gL_sJ, gQ_sI, gQ_sL, gQ_sJ, gN_sI, gN_sL, gN_sQ, gN_sJ, E_aast_0, E_b2_0, E_c_0, E_dup_0, E_dup_1, E_getI_0, E_getR_0, E_jl_0, E_ldR_a, E_ldR_b, E_putI_0, E_rV_0, aL_91, cC_6, cC_91, rQ_91, rR_701, sN_91, kX6_addWord, hc, h1, h3, h4, hg, nI_1, cC_10, e1091, false_and, false_or]
theorem s_isKind (kd : Int32) (σ : HS) (Q : PO) : MM 130 [.inl kd] σ Q ↔ Q (some (.inl (bI ((¬ kd < 0 ∧ ¬ 38 < kd) ∧ ¬ 8 < kd - kd / 10 * 10) inferInstance))) σ := by
  rw [eX11_isKind 14]
  have h10 : ¬ (10 : Int32) = 0 := by decide
  by_cases h1 : ¬ kd < 0 ∧ ¬ 38 < kd
  · by_cases h2 : 8 < kd - kd / 10 * 10
    · simp only [am_run_s, bt, lf, am_in, am_ar, am_fit, am_ld, am_ct, Nat.reduceLT, Nat.reduceEqDiff, reduceIte, Nat.reduceAdd, Nat.reduceLeDiff, Nat.reduceSub, Bool.false_eq_true, if_true, if_false, ite_true, ite_false, List.length_cons, List.length_nil, Nat.zero_add, Nat.add_zero, and_true, true_and, true_or, or_true, and_self, Nat.le_refl, Nat.lt_irrefl, gI_sI, gL_sL, gQ_sQ, gI_sJ, gI_sL, gI_sQ, gL_sI, gL_sQ, gL_sJ, gQ_sI, gQ_sL, gQ_sJ, gN_sI, gN_sL, gN_sQ, gN_sJ, E_b2n_0, E_cS_a, E_cS_b, E_c_0, E_jg_0, E_jmp_0, E_jz_0, E_kk, E_ldI_a, E_ldI_b, E_rZ_0, am_cc, am_pop, am_rt, kX11_isKind, ↓s_isWithin, bI_z, am_b0, am_b1, h10, h1, h2, not_true_eq_false, not_false_eq_true]
      simp [bI, h1, h2]
    · simp only [am_run_s, bt, lf, am_in, am_ar, am_fit, am_ld, am_ct, Nat.reduceLT, Nat.reduceEqDiff, reduceIte, Nat.reduceAdd, Nat.reduceLeDiff, Nat.reduceSub, Bool.false_eq_true, if_true, if_false, ite_true, ite_false, List.length_cons, List.length_nil, Nat.zero_add, Nat.add_zero, and_true, true_and, true_or, or_true, and_self, Nat.le_refl, Nat.lt_irrefl, gI_sI, gL_sL, gQ_sQ, gI_sJ, gI_sL, gI_sQ, gL_sI, gL_sQ, gL_sJ, gQ_sI, gQ_sL, gQ_sJ, gN_sI, gN_sL, gN_sQ, gN_sJ, E_b2n_0, E_cS_a, E_cS_b, E_c_0, E_jg_0, E_jmp_0, E_jz_0, E_kk, E_ldI_a, E_ldI_b, E_rZ_0, am_cc, am_pop, am_rt, kX11_isKind, ↓s_isWithin, bI_z, am_b0, am_b1, h10, h1, h2, not_true_eq_false, not_false_eq_true]
      simp [bI, h1, h2]
  · simp only [am_run_s, bt, lf, am_in, am_ar, am_fit, am_ld, am_ct, Nat.reduceLT, Nat.reduceEqDiff, reduceIte, Nat.reduceAdd, Nat.reduceLeDiff, Nat.reduceSub, Bool.false_eq_true, if_true, if_false, ite_true, ite_false, List.length_cons, List.length_nil, Nat.zero_add, Nat.add_zero, and_true, true_and, true_or, or_true, and_self, Nat.le_refl, Nat.lt_irrefl, gI_sI, gL_sL, gQ_sQ, gI_sJ, gI_sL, gI_sQ, gL_sI, gL_sQ, gL_sJ, gQ_sI, gQ_sL, gQ_sJ, gN_sI, gN_sL, gN_sQ, gN_sJ, E_b2n_0, E_cS_a, E_cS_b, E_c_0, E_jg_0, E_jmp_0, E_jz_0, E_kk, E_ldI_a, E_ldI_b, E_rZ_0, am_cc, am_pop, am_rt, kX11_isKind, ↓s_isWithin, bI_z, am_b0, am_b1, h10, h1, not_true_eq_false, not_false_eq_true]
    unfold bI
    rw [if_neg (fun z => h1 z.1)]
theorem s_isAsked (kd : Int32) (σ : HS) (Q : PO) : MM 131 [.inl kd] σ Q ↔ Q (some (.inl (bI (¬ kd < 30 ∧ ¬ 39 < kd) inferInstance))) σ := by
  rw [eX11_isAsked 40]
  simp only [am_run_s, bt, lf, am_in, am_ar, am_fit, am_ld, am_ct, Nat.reduceLT, Nat.reduceEqDiff, reduceIte, Nat.reduceAdd, Nat.reduceLeDiff, Nat.reduceSub, Bool.false_eq_true, if_true, if_false, ite_true, ite_false, List.length_cons, List.length_nil, Nat.zero_add, Nat.add_zero, and_true, true_and, true_or, or_true, and_self, Nat.le_refl, Nat.lt_irrefl, gI_sI, gL_sL, gQ_sQ, gI_sJ, gI_sL, gI_sQ, gL_sI, gL_sQ, gL_sJ, gQ_sI, gQ_sL, gQ_sJ, gN_sI, gN_sL, gN_sQ, gN_sJ, E_cS_a, E_cS_b, E_c_0, E_kk, E_ldI_a, E_ldI_b, E_rZ_0, am_cc, am_pop, am_rt, kX11_isAsked, ↓s_isWithin, bI_b]
theorem h_wordM (n : Nat) {Q : PO} {pc : Nat} {ls : ALs} {st : List AV} {σ : HS} {a b : Nat} : am_T (kX12_word S1) MM Q pc ls st σ a b ↔ (kX12_word S1 pc).2 MM Q (am_run (kX12_word S1) MM Q n) ls st σ a b := am_go (gX12_word S1) MM_mo n
theorem h_wordX (n : Nat) {Q : PO} {pc : Nat} {ls : ALs} {st : List AV} {σ : HS} {a b : Nat} : am_T (kX11_word S1) MM Q pc ls st σ a b ↔ (kX11_word S1 pc).2 MM Q (am_run (kX11_word S1) MM Q n) ls st σ a b := am_go (gX11_word S1) MM_mo n
abbrev lsM (nd r kd t f b6 b7 : Int32) : ALs := [some (.inr (.inr (some (12, 0)))), some (.inl nd), some (.inl r), some (.inl kd), some (.inl t), some (.inl f), some (.inl b6), some (.inl b7), none]
abbrev arM (nd r kd t f : Int32) : List AV := [.inr (.inr (some (12, 0))), .inl nd, .inl r, .inl kd, .inl t, .inl f]
theorem pre_neg {nd r kd t f : Int32} (h : kd < 0) (σ : HS) (Q : PO) : MM 144 (arM nd r kd t f) σ Q ↔ am_T (kX12_word S1) MM Q 60 (lsM nd r kd t f 0 0) [] σ 0 0 := by
  rw [eX12_word 8]
  simp only [am_run_s, bt, lf, am_in, am_ar, am_fit, am_ld, am_ct, Nat.reduceLT, Nat.reduceEqDiff, reduceIte, Nat.reduceAdd, Nat.reduceLeDiff, Nat.reduceSub, Bool.false_eq_true, if_true, if_false, ite_true, ite_false, List.length_cons, List.length_nil, Nat.zero_add, Nat.add_zero, and_true, true_and, true_or, or_true, and_self, Nat.le_refl, Nat.lt_irrefl, gI_sI, gL_sL, gQ_sQ, gI_sJ, gI_sL, gI_sQ, gL_sI, gL_sQ, gL_sJ, gQ_sI, gQ_sL, gQ_sJ, gN_sI, gN_sL, gN_sQ, gN_sJ, E_b2_0, E_b2n_0, E_cS_a, E_cS_b, E_cV_a, E_cV_b, E_c_0, E_dup_0, E_dup_1, E_getI_0, E_getR_0, E_i2l_0, E_iast_0, E_je_0, E_jg_0, E_jmp_0, E_jn_0, E_jz_0, E_kk, E_ldI_a, E_ldI_b, E_ldR_a, E_ldR_b, E_putI_0, E_putZ_0, E_rI_0, E_stI_0, aL_37, aL_38, aL_39, aL_40, aL_41, aL_42, aL_44, aL_46, aL_47, aL_48, aL_51, am_cc, am_nl, am_ok, am_pop, am_rt, am_set, cC_12, cC_37, cC_38, cC_39, cC_40, cC_41, cC_42, cC_44, cC_46, cC_47, cC_48, cC_51, rR_1304, rR_1305, rR_1306, rR_1307, rR_1308, rR_1309, rR_1311, rR_1317, rR_1318, rR_1319, rR_1322, kX12_word, kX12_word_0, kX12_word_1, kX12_word_2, kX12_word_3, h]
  exact Iff.rfl
theorem n10 : (10 : Int32) = nI 10 := by decide
theorem n3 : (3 : Int32) = nI 3 := by decide
theorem n8 : (8 : Int32) = nI 8 := by decide
theorem pre_pos {nd r t f : Int32} {c : Nat} (hc : c < 2147483648) (σ : HS) (Q : PO) : MM 144 (arM nd r (nI c) t f) σ Q ↔ am_T (kX12_word S1) MM Q 60 (lsM nd r (nI c) t f (if c / 10 ≤ 3 ∧ c % 10 ≤ 8 then 1 else 0) (if c / 10 = 3 then 1 else 0)) [] σ 0 0 := by
  have h0 := nI_f hc
  have h10 : ¬ (10 : Int32) = 0 := by decide
  have hd : nI c / 10 = nI (c / 10) := by rw [n10, pk_div (by omega) (by omega) (by omega)]
  have hr : nI c - nI (c / 10) * 10 = nI (c % 10) := by
    rw [← hd, n10]; exact pk_rem (by omega) (by omega) (by omega)
  have e1 := nI_f (j := c / 10) (by omega)
  have e2 := nI_f (j := c % 10) (by omega)
  by_cases q1 : c / 10 ≤ 3
  · have e3 : ¬ 3 < nI (c / 10) := by rw [n3]; exact nI_nlt (by omega) (by omega)
    by_cases q2 : c % 10 ≤ 8
    · have e4 : ¬ 8 < nI (c % 10) := by rw [n8]; exact nI_nlt (by omega) (by omega)
      rw [if_pos ⟨q1, q2⟩]
      by_cases q3 : c / 10 = 3
      · have e5 : (nI (c / 10) = 3) = True := eq_true (by rw [q3]; decide)
        rw [eX12_word 31, if_pos q3]
        simp only [am_run_s, bt, lf, am_in, am_ar, am_fit, am_ld, am_ct, Nat.reduceLT, Nat.reduceEqDiff, reduceIte, Nat.reduceAdd, Nat.reduceLeDiff, Nat.reduceSub, Bool.false_eq_true, if_true, if_false, ite_true, ite_false, List.length_cons, List.length_nil, Nat.zero_add, Nat.add_zero, and_true, true_and, true_or, or_true, and_self, Nat.le_refl, Nat.lt_irrefl, gI_sI, gL_sL, gQ_sQ, gI_sJ, gI_sL, gI_sQ, gL_sI, gL_sQ, gL_sJ, gQ_sI, gQ_sL, gQ_sJ, gN_sI, gN_sL, gN_sQ, gN_sJ, E_b2_0, E_b2n_0, E_cS_a, E_cS_b, E_cV_a, E_cV_b, E_c_0, E_dup_0, E_dup_1, E_getI_0, E_getR_0, E_i2l_0, E_iast_0, E_je_0, E_jg_0, E_jmp_0, E_jn_0, E_jz_0, E_kk, E_ldI_a, E_ldI_b, E_ldR_a, E_ldR_b, E_putI_0, E_putZ_0, E_rI_0, E_stI_0, aL_37, aL_38, aL_39, aL_40, aL_41, aL_42, aL_44, aL_46, aL_47, aL_48, aL_51, am_cc, am_nl, am_ok, am_pop, am_rt, am_set, cC_12, cC_37, cC_38, cC_39, cC_40, cC_41, cC_42, cC_44, cC_46, cC_47, cC_48, cC_51, rR_1304, rR_1305, rR_1306, rR_1307, rR_1308, rR_1309, rR_1311, rR_1317, rR_1318, rR_1319, rR_1322, kX12_word, kX12_word_0, kX12_word_1, kX12_word_2, kX12_word_3, h0, h10, hd, hr, e1, e2, e3, e4, e5, ↓s_isIn0_3, ↓s_isIn0_8, bI_z, not_true_eq_false, not_false_eq_true]
        exact Iff.rfl
      · have e5 : (nI (c / 10) = 3) = False := eq_false (by rw [n3]; exact fun z => q3 ((nI_eq (by omega) (by omega)).mp z))
        rw [eX12_word 30, if_neg q3]
        simp only [am_run_s, bt, lf, am_in, am_ar, am_fit, am_ld, am_ct, Nat.reduceLT, Nat.reduceEqDiff, reduceIte, Nat.reduceAdd, Nat.reduceLeDiff, Nat.reduceSub, Bool.false_eq_true, if_true, if_false, ite_true, ite_false, List.length_cons, List.length_nil, Nat.zero_add, Nat.add_zero, and_true, true_and, true_or, or_true, and_self, Nat.le_refl, Nat.lt_irrefl, gI_sI, gL_sL, gQ_sQ, gI_sJ, gI_sL, gI_sQ, gL_sI, gL_sQ, gL_sJ, gQ_sI, gQ_sL, gQ_sJ, gN_sI, gN_sL, gN_sQ, gN_sJ, E_b2_0, E_b2n_0, E_cS_a, E_cS_b, E_cV_a, E_cV_b, E_c_0, E_dup_0, E_dup_1, E_getI_0, E_getR_0, E_i2l_0, E_iast_0, E_je_0, E_jg_0, E_jmp_0, E_jn_0, E_jz_0, E_kk, E_ldI_a, E_ldI_b, E_ldR_a, E_ldR_b, E_putI_0, E_putZ_0, E_rI_0, E_stI_0, aL_37, aL_38, aL_39, aL_40, aL_41, aL_42, aL_44, aL_46, aL_47, aL_48, aL_51, am_cc, am_nl, am_ok, am_pop, am_rt, am_set, cC_12, cC_37, cC_38, cC_39, cC_40, cC_41, cC_42, cC_44, cC_46, cC_47, cC_48, cC_51, rR_1304, rR_1305, rR_1306, rR_1307, rR_1308, rR_1309, rR_1311, rR_1317, rR_1318, rR_1319, rR_1322, kX12_word, kX12_word_0, kX12_word_1, kX12_word_2, kX12_word_3, h0, h10, hd, hr, e1, e2, e3, e4, e5, ↓s_isIn0_3, ↓s_isIn0_8, bI_z, not_true_eq_false, not_false_eq_true]
        exact Iff.rfl
    · have e4 : 8 < nI (c % 10) := by rw [n8]; exact nI_lt (by omega) (by omega)
      rw [if_neg (fun z => q2 z.2)]
      by_cases q3 : c / 10 = 3
      · have e5 : (nI (c / 10) = 3) = True := eq_true (by rw [q3]; decide)
        rw [eX12_word 30, if_pos q3]
        simp only [am_run_s, bt, lf, am_in, am_ar, am_fit, am_ld, am_ct, Nat.reduceLT, Nat.reduceEqDiff, reduceIte, Nat.reduceAdd, Nat.reduceLeDiff, Nat.reduceSub, Bool.false_eq_true, if_true, if_false, ite_true, ite_false, List.length_cons, List.length_nil, Nat.zero_add, Nat.add_zero, and_true, true_and, true_or, or_true, and_self, Nat.le_refl, Nat.lt_irrefl, gI_sI, gL_sL, gQ_sQ, gI_sJ, gI_sL, gI_sQ, gL_sI, gL_sQ, gL_sJ, gQ_sI, gQ_sL, gQ_sJ, gN_sI, gN_sL, gN_sQ, gN_sJ, E_b2_0, E_b2n_0, E_cS_a, E_cS_b, E_cV_a, E_cV_b, E_c_0, E_dup_0, E_dup_1, E_getI_0, E_getR_0, E_i2l_0, E_iast_0, E_je_0, E_jg_0, E_jmp_0, E_jn_0, E_jz_0, E_kk, E_ldI_a, E_ldI_b, E_ldR_a, E_ldR_b, E_putI_0, E_putZ_0, E_rI_0, E_stI_0, aL_37, aL_38, aL_39, aL_40, aL_41, aL_42, aL_44, aL_46, aL_47, aL_48, aL_51, am_cc, am_nl, am_ok, am_pop, am_rt, am_set, cC_12, cC_37, cC_38, cC_39, cC_40, cC_41, cC_42, cC_44, cC_46, cC_47, cC_48, cC_51, rR_1304, rR_1305, rR_1306, rR_1307, rR_1308, rR_1309, rR_1311, rR_1317, rR_1318, rR_1319, rR_1322, kX12_word, kX12_word_0, kX12_word_1, kX12_word_2, kX12_word_3, h0, h10, hd, hr, e1, e2, e3, e4, e5, ↓s_isIn0_3, ↓s_isIn0_8, bI_z, not_true_eq_false, not_false_eq_true, and_false]
        exact Iff.rfl
      · have e5 : (nI (c / 10) = 3) = False := eq_false (by rw [n3]; exact fun z => q3 ((nI_eq (by omega) (by omega)).mp z))
        rw [eX12_word 29, if_neg q3]
        simp only [am_run_s, bt, lf, am_in, am_ar, am_fit, am_ld, am_ct, Nat.reduceLT, Nat.reduceEqDiff, reduceIte, Nat.reduceAdd, Nat.reduceLeDiff, Nat.reduceSub, Bool.false_eq_true, if_true, if_false, ite_true, ite_false, List.length_cons, List.length_nil, Nat.zero_add, Nat.add_zero, and_true, true_and, true_or, or_true, and_self, Nat.le_refl, Nat.lt_irrefl, gI_sI, gL_sL, gQ_sQ, gI_sJ, gI_sL, gI_sQ, gL_sI, gL_sQ, gL_sJ, gQ_sI, gQ_sL, gQ_sJ, gN_sI, gN_sL, gN_sQ, gN_sJ, E_b2_0, E_b2n_0, E_cS_a, E_cS_b, E_cV_a, E_cV_b, E_c_0, E_dup_0, E_dup_1, E_getI_0, E_getR_0, E_i2l_0, E_iast_0, E_je_0, E_jg_0, E_jmp_0, E_jn_0, E_jz_0, E_kk, E_ldI_a, E_ldI_b, E_ldR_a, E_ldR_b, E_putI_0, E_putZ_0, E_rI_0, E_stI_0, aL_37, aL_38, aL_39, aL_40, aL_41, aL_42, aL_44, aL_46, aL_47, aL_48, aL_51, am_cc, am_nl, am_ok, am_pop, am_rt, am_set, cC_12, cC_37, cC_38, cC_39, cC_40, cC_41, cC_42, cC_44, cC_46, cC_47, cC_48, cC_51, rR_1304, rR_1305, rR_1306, rR_1307, rR_1308, rR_1309, rR_1311, rR_1317, rR_1318, rR_1319, rR_1322, kX12_word, kX12_word_0, kX12_word_1, kX12_word_2, kX12_word_3, h0, h10, hd, hr, e1, e2, e3, e4, e5, ↓s_isIn0_3, ↓s_isIn0_8, bI_z, not_true_eq_false, not_false_eq_true, and_false]
        exact Iff.rfl
  · have e3 : 3 < nI (c / 10) := by rw [n3]; exact nI_lt (by omega) (by omega)
    have e5 : (nI (c / 10) = 3) = False := eq_false (by rw [n3]; exact fun z => absurd ((nI_eq (by omega) (by omega)).mp z) (by omega))
    rw [eX12_word 21, if_neg (fun z => q1 z.1), if_neg (by omega)]
    simp only [am_run_s, bt, lf, am_in, am_ar, am_fit, am_ld, am_ct, Nat.reduceLT, Nat.reduceEqDiff, reduceIte, Nat.reduceAdd, Nat.reduceLeDiff, Nat.reduceSub, Bool.false_eq_true, if_true, if_false, ite_true, ite_false, List.length_cons, List.length_nil, Nat.zero_add, Nat.add_zero, and_true, true_and, true_or, or_true, and_self, Nat.le_refl, Nat.lt_irrefl, gI_sI, gL_sL, gQ_sQ, gI_sJ, gI_sL, gI_sQ, gL_sI, gL_sQ, gL_sJ, gQ_sI, gQ_sL, gQ_sJ, gN_sI, gN_sL, gN_sQ, gN_sJ, E_b2_0, E_b2n_0, E_cS_a, E_cS_b, E_cV_a, E_cV_b, E_c_0, E_dup_0, E_dup_1, E_getI_0, E_getR_0, E_i2l_0, E_iast_0, E_je_0, E_jg_0, E_jmp_0, E_jn_0, E_jz_0, E_kk, E_ldI_a, E_ldI_b, E_ldR_a, E_ldR_b, E_putI_0, E_putZ_0, E_rI_0, E_stI_0, aL_37, aL_38, aL_39, aL_40, aL_41, aL_42, aL_44, aL_46, aL_47, aL_48, aL_51, am_cc, am_nl, am_ok, am_pop, am_rt, am_set, cC_12, cC_37, cC_38, cC_39, cC_40, cC_41, cC_42, cC_44, cC_46, cC_47, cC_48, cC_51, rR_1304, rR_1305, rR_1306, rR_1307, rR_1308, rR_1309, rR_1311, rR_1317, rR_1318, rR_1319, rR_1322, kX12_word, kX12_word_0, kX12_word_1, kX12_word_2, kX12_word_3, h0, h10, hd, hr, e1, e2, e3, e5, ↓s_isIn0_3, ↓s_isIn0_8, bI_z, not_true_eq_false, not_false_eq_true, and_false]
    exact Iff.rfl
/-- KIND and n as told: the same of both -/
theorem kd_split (nd r kd t f : Int32) : ∃ b6 b7 : Bool, (∀ (σ : HS) (Q : PO), MM 144 (arM nd r kd t f) σ Q ↔ am_T (kX12_word S1) MM Q 60 (lsM nd r kd t f (bb b6) (bb b7)) [] σ 0 0) ∧ ((¬ kd < 30 ∧ ¬ 39 < kd) ↔ b7 = true) ∧ (((¬ kd < 0 ∧ ¬ 38 < kd) ∧ ¬ 8 < kd - kd / 10 * 10) ↔ b6 = true) ∧ (b6 = true → ∃ c : Nat, kd = nI c ∧ c / 10 ≤ 3 ∧ c % 10 ≤ 8 ∧ (b7 = true ↔ c / 10 = 3)) := by
  by_cases h : kd < 0
  · refine ⟨false, false, fun σ Q => pre_neg h σ Q, ⟨fun z => absurd z.1 ?_, fun z => by cases z⟩, ⟨fun z => absurd h z.1.1, fun z => by cases z⟩, fun z => by cases z⟩
    intro z
    apply z
    have e0 : (0 : Int32).toInt = 0 := by decide
    have e30 : (30 : Int32).toInt = 30 := by decide
    rw [Int32.lt_iff_toInt_lt] at h ⊢
    omega
  · obtain ⟨c, hc, rfl⟩ := nI_of h
    have hd : nI c / 10 = nI (c / 10) := by rw [n10, pk_div (by omega) (by omega) (by omega)]
    have hr : nI c - nI (c / 10) * 10 = nI (c % 10) := by
      rw [← hd, n10]; exact pk_rem (by omega) (by omega) (by omega)
    have n30 : (30 : Int32) = nI 30 := by decide
    have n39 : (39 : Int32) = nI 39 := by decide
    have n38 : (38 : Int32) = nI 38 := by decide
    refine ⟨decide (c / 10 ≤ 3 ∧ c % 10 ≤ 8), decide (c / 10 = 3), fun σ Q => ?_, ?_, ?_, ?_⟩
    · rw [pre_pos (by omega)]
      unfold bb
      simp only [decide_eq_true_eq]
    · rw [n30, n39, nI_ltI (by omega) (by omega), nI_ltI (by omega) (by omega), decide_eq_true_eq]
      omega
    · rw [hd, hr, n38, n8, nI_ltI (by omega) (by omega), nI_ltI (by omega) (by omega), decide_eq_true_eq]
      constructor
      · rintro ⟨⟨-, z1⟩, z2⟩; omega
      · intro z
        exact ⟨⟨h, by omega⟩, by omega⟩
    · intro z
      rw [decide_eq_true_eq] at z
      exact ⟨c, rfl, z.1, z.2, by rw [decide_eq_true_eq]⟩
