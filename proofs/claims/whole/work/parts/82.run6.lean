/-! ===== the run: the reference: a frame is heard ===== -/
def hc1 (m : HS) (i : Nat) : HS := if gI m 34 i < 256 ∧ 0 < gI m 34 i then sI m 34 i (gI m 34 i - 1) else m
def hcN (m : HS) : Nat → HS
  | 0 => m
  | i + 1 => hc1 (hcN m i) i
def PHC (f : Nat) : Bool := Nat.beq f 34
theorem hc1_f (m : HS) (i : Nat) : frm PHC m (hc1 m i) := by
  unfold hc1
  split
  · exact frm.rf.si rfl
  · exact frm.rf
theorem hcN_f (m : HS) : ∀ i, frm PHC m (hcN m i)
  | 0 => frm.rf
  | i + 1 => (hcN_f m i).tr (hc1_f _ _)
theorem r_hc1 {m : HS} {n i : Nat} {w tm : Int32} (hn : gI m 1313 0 = nI n) (h10 : n ≤ 10) (hi : i < n) : Rp (kX12_isHeard S1) 59 [some rM, some (.inl w), some (.inl tm), some (.inl (nI i))] m 59 [some rM, some (.inl w), some (.inl tm), some (.inl (nI (i + 1)))] (hc1 m i) := by
  intro σ Q hm hX
  have c0 : gI σ 1313 0 = nI n := by rw [hm.gi rfl]; exact hn
  have h2 := nI_t hi (by omega)
  have h3 : vp_in (nI i) 10 := vp_in_nI (by omega) (by omega)
  have h4 : (nI i).toNatClampNeg = i := nI_clamp (by omega)
  have c1 : gI σ 34 i = gI m 34 i := hm.gi rfl
  unfold hc1 at hX
  by_cases q1 : gI m 34 i < 256
  · by_cases q2 : 0 < gI m 34 i
    · rw [if_pos ⟨q1, q2⟩] at hX
      rw [hX12_isHeard 22]
      simp only [am_run_s, bt, lf, am_in, am_ar, am_fit, am_ld, am_ct, Nat.reduceLT, Nat.reduceEqDiff, reduceIte, Nat.reduceAdd, Nat.reduceLeDiff, Nat.reduceSub, Bool.false_eq_true, if_true, if_false, ite_true, ite_false, List.length_cons, List.length_nil, Nat.zero_add, Nat.add_zero, and_true, true_and, true_or, or_true, and_self, Nat.le_refl, Nat.lt_irrefl, gI_sI, gL_sL, gQ_sQ, gI_sJ, gI_sL, gI_sQ, gL_sI, gL_sQ, gL_sJ, gQ_sI, gQ_sL, gQ_sJ, gN_sI, gN_sL, gN_sQ, gN_sJ, E_b2_0, E_cV_a, E_cV_b, E_c_0, E_dup2_0, E_dup_0, E_dup_1, E_getI_0, E_getR_0, E_iald_0, E_iast_0, E_inc_a, E_inc_b, E_je_0, E_jg_0, E_jl_0, E_jmp_0, E_jp_0, E_jz_0, E_kk, E_ldI_a, E_ldI_b, E_ldR_a, E_ldR_b, E_putI_0, E_rV_0, E_stI_0, aL_34, aL_39, aL_42, aL_47, aL_49, aL_51, am_cc, am_nl, am_ok, am_pop, am_rt, am_set, cC_12, cC_34, cC_39, cC_42, cC_47, cC_49, cC_51, rR_1301, rR_1306, rR_1309, rR_1318, rR_1320, rR_1322, kX12_isHeard, kX12_isHeard_0, kX12_isHeard_1, kX12_isHeard_2, c0, h2, h3, h4, ↓s_MisOff i σ _ (show i < 10 by omega), bI_z, c1, q1, q2, not_true_eq_false, not_false_eq_true, nI_1]
      exact hX _ (hm.si _ _ _) (frm.rf.si rfl)
    · rw [if_neg (fun z => q2 z.2)] at hX
      rw [hX12_isHeard 14]
      simp only [am_run_s, bt, lf, am_in, am_ar, am_fit, am_ld, am_ct, Nat.reduceLT, Nat.reduceEqDiff, reduceIte, Nat.reduceAdd, Nat.reduceLeDiff, Nat.reduceSub, Bool.false_eq_true, if_true, if_false, ite_true, ite_false, List.length_cons, List.length_nil, Nat.zero_add, Nat.add_zero, and_true, true_and, true_or, or_true, and_self, Nat.le_refl, Nat.lt_irrefl, gI_sI, gL_sL, gQ_sQ, gI_sJ, gI_sL, gI_sQ, gL_sI, gL_sQ, gL_sJ, gQ_sI, gQ_sL, gQ_sJ, gN_sI, gN_sL, gN_sQ, gN_sJ, E_b2_0, E_cV_a, E_cV_b, E_c_0, E_dup2_0, E_dup_0, E_dup_1, E_getI_0, E_getR_0, E_iald_0, E_iast_0, E_inc_a, E_inc_b, E_je_0, E_jg_0, E_jl_0, E_jmp_0, E_jp_0, E_jz_0, E_kk, E_ldI_a, E_ldI_b, E_ldR_a, E_ldR_b, E_putI_0, E_rV_0, E_stI_0, aL_34, aL_39, aL_42, aL_47, aL_49, aL_51, am_cc, am_nl, am_ok, am_pop, am_rt, am_set, cC_12, cC_34, cC_39, cC_42, cC_47, cC_49, cC_51, rR_1301, rR_1306, rR_1309, rR_1318, rR_1320, rR_1322, kX12_isHeard, kX12_isHeard_0, kX12_isHeard_1, kX12_isHeard_2, c0, h2, h3, h4, ↓s_MisOff i σ _ (show i < 10 by omega), bI_z, c1, q1, q2, not_true_eq_false, not_false_eq_true, nI_1]
      exact hX σ hm frm.rf
  · rw [if_neg (fun z => q1 z.1)] at hX
    rw [hX12_isHeard 9]
    simp only [am_run_s, bt, lf, am_in, am_ar, am_fit, am_ld, am_ct, Nat.reduceLT, Nat.reduceEqDiff, reduceIte, Nat.reduceAdd, Nat.reduceLeDiff, Nat.reduceSub, Bool.false_eq_true, if_true, if_false, ite_true, ite_false, List.length_cons, List.length_nil, Nat.zero_add, Nat.add_zero, and_true, true_and, true_or, or_true, and_self, Nat.le_refl, Nat.lt_irrefl, gI_sI, gL_sL, gQ_sQ, gI_sJ, gI_sL, gI_sQ, gL_sI, gL_sQ, gL_sJ, gQ_sI, gQ_sL, gQ_sJ, gN_sI, gN_sL, gN_sQ, gN_sJ, E_b2_0, E_cV_a, E_cV_b, E_c_0, E_dup2_0, E_dup_0, E_dup_1, E_getI_0, E_getR_0, E_iald_0, E_iast_0, E_inc_a, E_inc_b, E_je_0, E_jg_0, E_jl_0, E_jmp_0, E_jp_0, E_jz_0, E_kk, E_ldI_a, E_ldI_b, E_ldR_a, E_ldR_b, E_putI_0, E_rV_0, E_stI_0, aL_34, aL_39, aL_42, aL_47, aL_49, aL_51, am_cc, am_nl, am_ok, am_pop, am_rt, am_set, cC_12, cC_34, cC_39, cC_42, cC_47, cC_49, cC_51, rR_1301, rR_1306, rR_1309, rR_1318, rR_1320, rR_1322, kX12_isHeard, kX12_isHeard_0, kX12_isHeard_1, kX12_isHeard_2, c0, h2, ↓s_MisOff i σ _ (show i < 10 by omega), bI_z, c1, q1, not_true_eq_false, not_false_eq_true, nI_1]
    exact hX σ hm frm.rf
theorem r_hcN {m : HS} {n : Nat} {w tm : Int32} (hn : gI m 1313 0 = nI n) (h10 : n ≤ 10) : ∀ i, i ≤ n → Rp (kX12_isHeard S1) 59 [some rM, some (.inl w), some (.inl tm), some (.inl (nI 0))] m 59 [some rM, some (.inl w), some (.inl tm), some (.inl (nI i))] (hcN m i)
  | 0, _ => Rp.rf
  | i + 1, hi => (r_hcN hn h10 i (by omega)).tr (r_hc1 (by rw [(hcN_f m i).gi rfl]; exact hn) h10 (by omega))
def ha1 (m : HS) (w a : Nat) : HS := if gI m 39 a = 3 ∧ gI m 42 a = nI w then sI m 47 a (gI m 1342 0 + 1) else m
def haN (w : Nat) (m : HS) : Nat → HS
  | 0 => m
  | i + 1 => ha1 (haN w m i) w i
def PHA (f : Nat) : Bool := Nat.beq f 47
theorem ha1_f (m : HS) (w i : Nat) : frm PHA m (ha1 m w i) := by
  unfold ha1
  split
  · exact frm.rf.si rfl
  · exact frm.rf
theorem haN_f (w : Nat) (m : HS) : ∀ i, frm PHA m (haN w m i)
  | 0 => frm.rf
  | i + 1 => (haN_f w m i).tr (ha1_f _ _ _)
theorem r_ha1 {m : HS} {nw w i : Nat} {tm : Int32} (hnw : gI m 1314 0 = nI nw) (h24 : nw ≤ 24) (hi : i < nw) : Rp (kX12_isHeard S1) 102 [some rM, some (.inl (nI w)), some (.inl tm), some (.inl (nI i))] m 102 [some rM, some (.inl (nI w)), some (.inl tm), some (.inl (nI (i + 1)))] (ha1 m w i) := by
  intro σ Q hm hX
  have c0 : gI σ 1314 0 = nI nw := by rw [hm.gi rfl]; exact hnw
  have h2 := nI_t hi (by omega)
  have h3 : vp_in (nI i) 24 := vp_in_nI (by omega) (by omega)
  have h4 : (nI i).toNatClampNeg = i := nI_clamp (by omega)
  have c1 : gI σ 39 i = gI m 39 i := hm.gi rfl
  have c2 : gI σ 42 i = gI m 42 i := hm.gi rfl
  have c3 : gI σ 1342 0 = gI m 1342 0 := hm.gi rfl
  unfold ha1 at hX
  by_cases q1 : gI m 39 i = 3
  · by_cases q2 : gI m 42 i = nI w
    · rw [if_pos ⟨q1, q2⟩] at hX
      rw [hX12_isHeard 25]
      simp only [am_run_s, bt, lf, am_in, am_ar, am_fit, am_ld, am_ct, Nat.reduceLT, Nat.reduceEqDiff, reduceIte, Nat.reduceAdd, Nat.reduceLeDiff, Nat.reduceSub, Bool.false_eq_true, if_true, if_false, ite_true, ite_false, List.length_cons, List.length_nil, Nat.zero_add, Nat.add_zero, and_true, true_and, true_or, or_true, and_self, Nat.le_refl, Nat.lt_irrefl, gI_sI, gL_sL, gQ_sQ, gI_sJ, gI_sL, gI_sQ, gL_sI, gL_sQ, gL_sJ, gQ_sI, gQ_sL, gQ_sJ, gN_sI, gN_sL, gN_sQ, gN_sJ, E_b2_0, E_cV_a, E_cV_b, E_c_0, E_dup2_0, E_dup_0, E_dup_1, E_getI_0, E_getR_0, E_iald_0, E_iast_0, E_inc_a, E_inc_b, E_je_0, E_jg_0, E_jl_0, E_jmp_0, E_jp_0, E_jz_0, E_kk, E_ldI_a, E_ldI_b, E_ldR_a, E_ldR_b, E_putI_0, E_rV_0, E_stI_0, aL_34, aL_39, aL_42, aL_47, aL_49, aL_51, am_cc, am_nl, am_ok, am_pop, am_rt, am_set, cC_12, cC_34, cC_39, cC_42, cC_47, cC_49, cC_51, rR_1301, rR_1306, rR_1309, rR_1318, rR_1320, rR_1322, kX12_isHeard, kX12_isHeard_0, kX12_isHeard_1, kX12_isHeard_2, c0, h2, h3, h4, c1, c2, c3, q1, q2, nI_1]
      exact hX _ (hm.si _ _ _) (frm.rf.si rfl)
    · rw [if_neg (fun z => q2 z.2)] at hX
      rw [hX12_isHeard 17]
      simp only [am_run_s, bt, lf, am_in, am_ar, am_fit, am_ld, am_ct, Nat.reduceLT, Nat.reduceEqDiff, reduceIte, Nat.reduceAdd, Nat.reduceLeDiff, Nat.reduceSub, Bool.false_eq_true, if_true, if_false, ite_true, ite_false, List.length_cons, List.length_nil, Nat.zero_add, Nat.add_zero, and_true, true_and, true_or, or_true, and_self, Nat.le_refl, Nat.lt_irrefl, gI_sI, gL_sL, gQ_sQ, gI_sJ, gI_sL, gI_sQ, gL_sI, gL_sQ, gL_sJ, gQ_sI, gQ_sL, gQ_sJ, gN_sI, gN_sL, gN_sQ, gN_sJ, E_b2_0, E_cV_a, E_cV_b, E_c_0, E_dup2_0, E_dup_0, E_dup_1, E_getI_0, E_getR_0, E_iald_0, E_iast_0, E_inc_a, E_inc_b, E_je_0, E_jg_0, E_jl_0, E_jmp_0, E_jp_0, E_jz_0, E_kk, E_ldI_a, E_ldI_b, E_ldR_a, E_ldR_b, E_putI_0, E_rV_0, E_stI_0, aL_34, aL_39, aL_42, aL_47, aL_49, aL_51, am_cc, am_nl, am_ok, am_pop, am_rt, am_set, cC_12, cC_34, cC_39, cC_42, cC_47, cC_49, cC_51, rR_1301, rR_1306, rR_1309, rR_1318, rR_1320, rR_1322, kX12_isHeard, kX12_isHeard_0, kX12_isHeard_1, kX12_isHeard_2, c0, h2, h3, h4, c1, c2, q1, q2, nI_1]
      exact hX σ hm frm.rf
  · rw [if_neg (fun z => q1 z.1)] at hX
    rw [hX12_isHeard 11]
    simp only [am_run_s, bt, lf, am_in, am_ar, am_fit, am_ld, am_ct, Nat.reduceLT, Nat.reduceEqDiff, reduceIte, Nat.reduceAdd, Nat.reduceLeDiff, Nat.reduceSub, Bool.false_eq_true, if_true, if_false, ite_true, ite_false, List.length_cons, List.length_nil, Nat.zero_add, Nat.add_zero, and_true, true_and, true_or, or_true, and_self, Nat.le_refl, Nat.lt_irrefl, gI_sI, gL_sL, gQ_sQ, gI_sJ, gI_sL, gI_sQ, gL_sI, gL_sQ, gL_sJ, gQ_sI, gQ_sL, gQ_sJ, gN_sI, gN_sL, gN_sQ, gN_sJ, E_b2_0, E_cV_a, E_cV_b, E_c_0, E_dup2_0, E_dup_0, E_dup_1, E_getI_0, E_getR_0, E_iald_0, E_iast_0, E_inc_a, E_inc_b, E_je_0, E_jg_0, E_jl_0, E_jmp_0, E_jp_0, E_jz_0, E_kk, E_ldI_a, E_ldI_b, E_ldR_a, E_ldR_b, E_putI_0, E_rV_0, E_stI_0, aL_34, aL_39, aL_42, aL_47, aL_49, aL_51, am_cc, am_nl, am_ok, am_pop, am_rt, am_set, cC_12, cC_34, cC_39, cC_42, cC_47, cC_49, cC_51, rR_1301, rR_1306, rR_1309, rR_1318, rR_1320, rR_1322, kX12_isHeard, kX12_isHeard_0, kX12_isHeard_1, kX12_isHeard_2, c0, h2, h3, h4, c1, q1, nI_1]
    exact hX σ hm frm.rf
theorem r_haN {m : HS} {nw w : Nat} {tm : Int32} (hnw : gI m 1314 0 = nI nw) (h24 : nw ≤ 24) : ∀ i, i ≤ nw → Rp (kX12_isHeard S1) 102 [some rM, some (.inl (nI w)), some (.inl tm), some (.inl (nI 0))] m 102 [some rM, some (.inl (nI w)), some (.inl tm), some (.inl (nI i))] (haN w m i)
  | 0, _ => Rp.rf
  | i + 1, hi => (r_haN hnw h24 i (by omega)).tr (r_ha1 (by rw [(haN_f w m i).gi rfl]; exact hnw) h24 (by omega))
