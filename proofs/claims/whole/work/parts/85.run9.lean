/-! ===== the run: the reference: the best of those that wait ===== -/
/-- the best so far of the first i words -/
def bsN (m : HS) : Nat → Option Nat
  | 0 => none
  | i + 1 => if ¬ gI m 72 i = 0 ∧ gI m 34 (gI m 37 i).toNatClampNeg < 256 then (match bsN m i with
    | none => some i
    | some b => if kI (gI m 38 i) < kI (gI m 38 b) then some i else some b) else bsN m i
theorem bsN_lt (m : HS) : ∀ {i b : Nat}, bsN m i = some b → b < i
  | 0, b, h => by cases h
  | i + 1, b, h => by
    have e : bsN m (i + 1) = if ¬ gI m 72 i = 0 ∧ gI m 34 (gI m 37 i).toNatClampNeg < 256 then (match bsN m i with | none => some i | some b => if kI (gI m 38 i) < kI (gI m 38 b) then some i else some b) else bsN m i := rfl
    rw [e] at h
    by_cases q : ¬ gI m 72 i = 0 ∧ gI m 34 (gI m 37 i).toNatClampNeg < 256
    · rw [if_pos q] at h
      cases e2 : bsN m i with
      | none =>
        rw [e2] at h
        have := Option.some.inj h
        omega
      | some c =>
        have := bsN_lt m e2
        rw [e2] at h
        dsimp only at h
        by_cases q2 : kI (gI m 38 i) < kI (gI m 38 c)
        · rw [if_pos q2] at h
          have := Option.some.inj h
          omega
        · rw [if_neg q2] at h
          have := Option.some.inj h
          omega
    · rw [if_neg q] at h
      have := bsN_lt m h
      omega
theorem r_best {m : HS} {nw i : Nat} (hnw : gI m 1314 0 = nI nw) (h24 : nw ≤ 24) (hi : i < nw) (wf : WF m i) : Rp (kX12_begins S1) 4 [some rM, some (.inl (onat (bsN m i))), some (.inl (nI i))] m 4 [some rM, some (.inl (onat (bsN m (i + 1)))), some (.inl (nI (i + 1)))] m := by
  intro σ Q hm hX
  obtain ⟨h, kd, f, t, l, a1, a2, -⟩ := wf
  have h2 := nI_t hi (by omega)
  have h3 : vp_in (nI i) 24 := vp_in_nI (by omega) (by omega)
  have h4 : (nI i).toNatClampNeg = i := nI_clamp (by omega)
  have h6 : (nI h).toNatClampNeg = h := nI_clamp (by omega)
  have c0 : gI σ 1314 0 = nI nw := by rw [hm.gi rfl]; exact hnw
  have c1 : gI σ 72 i = gI m 72 i := hm.gi rfl
  have c2 : gI σ 37 i = nI h := by rw [hm.gi rfl]; exact a1
  have c3 : gI σ 34 h = gI m 34 h := hm.gi rfl
  have c4 : ∀ j, gI σ 38 j = gI m 38 j := fun j => hm.gi rfl
  have e : bsN m (i + 1) = if ¬ gI m 72 i = 0 ∧ gI m 34 (gI m 37 i).toNatClampNeg < 256 then (match bsN m i with | none => some i | some b => if kI (gI m 38 i) < kI (gI m 38 b) then some i else some b) else bsN m i := rfl
  rw [e, a1, h6] at hX
  have nm : ((-1 : Int32) < 0) = True := by decide
  by_cases q1 : gI m 72 i = 0
  · rw [if_neg (fun z => z.1 q1)] at hX
    rw [hX12_begins 10]
    simp only [am_run_s, bt, lf, am_in, am_ar, am_fit, am_ld, am_ct, Nat.reduceLT, Nat.reduceEqDiff, reduceIte, Nat.reduceAdd, Nat.reduceLeDiff, Nat.reduceSub, Bool.false_eq_true, if_true, if_false, ite_true, ite_false, List.length_cons, List.length_nil, Nat.zero_add, Nat.add_zero, and_true, true_and, true_or, or_true, and_self, Nat.le_refl, Nat.lt_irrefl, gI_sI, gL_sL, gQ_sQ, gI_sJ, gI_sL, gI_sQ, gL_sI, gL_sQ, gL_sJ, gQ_sI, gQ_sL, gQ_sJ, gN_sI, gN_sL, gN_sQ, gN_sJ, E_b2_0, E_bald_0, E_bast_0, E_cV_a, E_cV_b, E_c_0, E_getI_0, E_getR_0, E_iald_0, E_inc_a, E_inc_b, E_je_0, E_jl_0, E_jmp_0, E_jn_0, E_jz_0, E_kk, E_ldI_a, E_ldI_b, E_ldR_a, E_ldR_b, E_putI_0, E_putZ_0, E_rV_0, E_stI_0, aL_37, aL_45, aL_72, am_cc, am_nl, am_ok, am_pop, am_rt, am_set, cC_12, cC_37, cC_45, cC_72, rR_1304, rR_1315, rR_1316, kX12_begins, kX12_begins_0, kX12_begins_1, c0, h2, h3, h4, c1, q1, nI_1]
    exact hX σ hm frm.rf
  by_cases q2 : gI m 34 h < 256
  · rw [if_pos ⟨q1, q2⟩] at hX
    cases e2 : bsN m i with
    | none =>
      rw [e2] at hX
      rw [hX12_begins 21]
      simp only [am_run_s, bt, lf, am_in, am_ar, am_fit, am_ld, am_ct, Nat.reduceLT, Nat.reduceEqDiff, reduceIte, Nat.reduceAdd, Nat.reduceLeDiff, Nat.reduceSub, Bool.false_eq_true, if_true, if_false, ite_true, ite_false, List.length_cons, List.length_nil, Nat.zero_add, Nat.add_zero, and_true, true_and, true_or, or_true, and_self, Nat.le_refl, Nat.lt_irrefl, gI_sI, gL_sL, gQ_sQ, gI_sJ, gI_sL, gI_sQ, gL_sI, gL_sQ, gL_sJ, gQ_sI, gQ_sL, gQ_sJ, gN_sI, gN_sL, gN_sQ, gN_sJ, E_b2_0, E_bald_0, E_bast_0, E_cV_a, E_cV_b, E_c_0, E_getI_0, E_getR_0, E_iald_0, E_inc_a, E_inc_b, E_je_0, E_jl_0, E_jmp_0, E_jn_0, E_jz_0, E_kk, E_ldI_a, E_ldI_b, E_ldR_a, E_ldR_b, E_putI_0, E_putZ_0, E_rV_0, E_stI_0, aL_37, aL_45, aL_72, am_cc, am_nl, am_ok, am_pop, am_rt, am_set, cC_12, cC_37, cC_45, cC_72, rR_1304, rR_1315, rR_1316, kX12_begins, kX12_begins_0, kX12_begins_1, c0, h2, h3, h4, c1, c2, c3, q1, ↓s_MisOff h _ _ a2, bI_z, q2, show onat none = -1 from rfl, nm, not_true_eq_false, not_false_eq_true, nI_1]
      exact hX σ hm frm.rf
    | some b =>
      have hb := bsN_lt m e2
      have hbp := nI_f (j := b) (by omega)
      rw [e2] at hX
      dsimp only at hX
      by_cases q3 : kI (gI m 38 i) < kI (gI m 38 b)
      · rw [if_pos q3] at hX
        rw [hX12_begins 26]
        simp only [am_run_s, bt, lf, am_in, am_ar, am_fit, am_ld, am_ct, Nat.reduceLT, Nat.reduceEqDiff, reduceIte, Nat.reduceAdd, Nat.reduceLeDiff, Nat.reduceSub, Bool.false_eq_true, if_true, if_false, ite_true, ite_false, List.length_cons, List.length_nil, Nat.zero_add, Nat.add_zero, and_true, true_and, true_or, or_true, and_self, Nat.le_refl, Nat.lt_irrefl, gI_sI, gL_sL, gQ_sQ, gI_sJ, gI_sL, gI_sQ, gL_sI, gL_sQ, gL_sJ, gQ_sI, gQ_sL, gQ_sJ, gN_sI, gN_sL, gN_sQ, gN_sJ, E_b2_0, E_bald_0, E_bast_0, E_cV_a, E_cV_b, E_c_0, E_getI_0, E_getR_0, E_iald_0, E_inc_a, E_inc_b, E_je_0, E_jl_0, E_jmp_0, E_jn_0, E_jz_0, E_kk, E_ldI_a, E_ldI_b, E_ldR_a, E_ldR_b, E_putI_0, E_putZ_0, E_rV_0, E_stI_0, aL_37, aL_45, aL_72, am_cc, am_nl, am_ok, am_pop, am_rt, am_set, cC_12, cC_37, cC_45, cC_72, rR_1304, rR_1315, rR_1316, kX12_begins, kX12_begins_0, kX12_begins_1, c0, h2, h3, h4, c1, c2, c3, c4, q1, ↓s_MisOff h _ _ a2, ↓s_isAhead i b (show i < 24 by omega) (show b < 24 by omega), bI_z, q2, show onat (some b) = nI b from rfl, hbp, q3, not_true_eq_false, not_false_eq_true, nI_1]
        exact hX σ hm frm.rf
      · rw [if_neg q3] at hX
        rw [hX12_begins 24]
        simp only [am_run_s, bt, lf, am_in, am_ar, am_fit, am_ld, am_ct, Nat.reduceLT, Nat.reduceEqDiff, reduceIte, Nat.reduceAdd, Nat.reduceLeDiff, Nat.reduceSub, Bool.false_eq_true, if_true, if_false, ite_true, ite_false, List.length_cons, List.length_nil, Nat.zero_add, Nat.add_zero, and_true, true_and, true_or, or_true, and_self, Nat.le_refl, Nat.lt_irrefl, gI_sI, gL_sL, gQ_sQ, gI_sJ, gI_sL, gI_sQ, gL_sI, gL_sQ, gL_sJ, gQ_sI, gQ_sL, gQ_sJ, gN_sI, gN_sL, gN_sQ, gN_sJ, E_b2_0, E_bald_0, E_bast_0, E_cV_a, E_cV_b, E_c_0, E_getI_0, E_getR_0, E_iald_0, E_inc_a, E_inc_b, E_je_0, E_jl_0, E_jmp_0, E_jn_0, E_jz_0, E_kk, E_ldI_a, E_ldI_b, E_ldR_a, E_ldR_b, E_putI_0, E_putZ_0, E_rV_0, E_stI_0, aL_37, aL_45, aL_72, am_cc, am_nl, am_ok, am_pop, am_rt, am_set, cC_12, cC_37, cC_45, cC_72, rR_1304, rR_1315, rR_1316, kX12_begins, kX12_begins_0, kX12_begins_1, c0, h2, h3, h4, c1, c2, c3, c4, q1, ↓s_MisOff h _ _ a2, ↓s_isAhead i b (show i < 24 by omega) (show b < 24 by omega), bI_z, q2, show onat (some b) = nI b from rfl, hbp, q3, not_true_eq_false, not_false_eq_true, nI_1]
        exact hX σ hm frm.rf
  · rw [if_neg (fun z => q2 z.2)] at hX
    rw [hX12_begins 17]
    simp only [am_run_s, bt, lf, am_in, am_ar, am_fit, am_ld, am_ct, Nat.reduceLT, Nat.reduceEqDiff, reduceIte, Nat.reduceAdd, Nat.reduceLeDiff, Nat.reduceSub, Bool.false_eq_true, if_true, if_false, ite_true, ite_false, List.length_cons, List.length_nil, Nat.zero_add, Nat.add_zero, and_true, true_and, true_or, or_true, and_self, Nat.le_refl, Nat.lt_irrefl, gI_sI, gL_sL, gQ_sQ, gI_sJ, gI_sL, gI_sQ, gL_sI, gL_sQ, gL_sJ, gQ_sI, gQ_sL, gQ_sJ, gN_sI, gN_sL, gN_sQ, gN_sJ, E_b2_0, E_bald_0, E_bast_0, E_cV_a, E_cV_b, E_c_0, E_getI_0, E_getR_0, E_iald_0, E_inc_a, E_inc_b, E_je_0, E_jl_0, E_jmp_0, E_jn_0, E_jz_0, E_kk, E_ldI_a, E_ldI_b, E_ldR_a, E_ldR_b, E_putI_0, E_putZ_0, E_rV_0, E_stI_0, aL_37, aL_45, aL_72, am_cc, am_nl, am_ok, am_pop, am_rt, am_set, cC_12, cC_37, cC_45, cC_72, rR_1304, rR_1315, rR_1316, kX12_begins, kX12_begins_0, kX12_begins_1, c0, h2, h3, h4, c1, c2, c3, q1, ↓s_MisOff h _ _ a2, bI_z, q2, not_true_eq_false, not_false_eq_true, nI_1]
    exact hX σ hm frm.rf
