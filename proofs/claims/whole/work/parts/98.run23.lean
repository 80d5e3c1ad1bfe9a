/-! ===== the run: the class: a frame is heard ===== -/
theorem s_isAns (a w : Nat) (σ : HS) (Q : PO) (ha : a < gN σ 10) (hw : w < gN σ 10) : MM 82 [rO a, rO w] σ Q ↔ Q (some (.inl (bI (gI σ 1103 a = 3 ∧ gI σ 1106 a = gI σ 1100 w) inferInstance))) σ := by
  rw [eX10_isAnswerTo 12]
  simp only [am_run_s, bt, lf, am_in, am_ar, am_fit, am_ld, am_ct, Nat.reduceLT, Nat.reduceEqDiff, reduceIte, Nat.reduceAdd, Nat.reduceLeDiff, Nat.reduceSub, Bool.false_eq_true, if_true, if_false, ite_true, ite_false, List.length_cons, List.length_nil, Nat.zero_add, Nat.add_zero, and_true, true_and, true_or, or_true, and_self, Nat.le_refl, Nat.lt_irrefl, gI_sI, gL_sL, gQ_sQ, gI_sJ, gI_sL, gI_sQ, gL_sI, gL_sQ, gL_sJ, gQ_sI, gQ_sL, gQ_sJ, gN_sI, gN_sL, gN_sQ, gN_sJ, E_c_0, E_getI_0, E_je_0, E_jmp_0, E_ldR_a, E_ldR_b, E_rZ_0, cC_10, kX10_isAnswerTo, am_b0, am_b1, ha, hw]
  by_cases h1 : gI σ 1103 a = 3 <;> by_cases h2 : gI σ 1106 a = gI σ 1100 w <;> simp [bI, h1, h2]
theorem sI_idv {m : HS} {f i : Nat} {v : Int32} (h : gI m f i = v) : sI m f i v = m := by
  have : (sI m f i v).2.1 = m.2.1 := by
    funext f' i'
    show gI (sI m f i v) f' i' = gI m f' i'
    rw [gI_sI]
    by_cases e : f' = f
    · by_cases e2 : i' = i
      · rw [if_pos e, if_pos e2, e, e2]; exact h.symm
      · rw [if_pos e, if_neg e2]
    · rw [if_neg e]
  exact Prod.ext rfl (Prod.ext this rfl)
def PHXc : Nat → Bool := inL [401]
theorem hcN_s (m : HS) (i : Nat) : hcN m (i + 1) = hc1 (hcN m i) i := rfl
theorem haN_s (w : Nat) (m : HS) (i : Nat) : haN w m (i + 1) = ha1 (haN w m i) w i := rfl
theorem l_hcX {x m : HS} {w : Nat} {tm : Int32} (hS : STc x m) {Q : PO} (hX : ∀ x' v, frm PHXc x x' → BV x' (hcN m (gN x 3)) → am_T (kX9_hear S1) MM Q 118 [some rW, some (rO w), some (.inl tm), some (.inl (nI 0)), v] [] x' 0 0) :
    ∀ (r i : Nat) (v : Option AV) (x1 : HS), i + r = gN x 3 → frm PHXc x x1 → BV x1 (hcN m i) → am_T (kX9_hear S1) MM Q 64 [some rW, some (rO w), some (.inl tm), some (.inl (nI i)), v] [] x1 0 0 := by
  intro r
  have h10 := hS.1.1
  induction r with
  | zero =>
    intro i v x1 hi f1 hB
    have e : i = gN x 3 := by omega
    have c0 : gI x1 702 0 = nI (gN x 3) := by rw [f1.gi rfl]; exact hS.1.2.2.1
    have h0 : ¬ nI i < nI (gN x 3) := nI_nlt (by omega) (by omega)
    rw [hX9_hear 7]
    simp only [am_run_s, bt, lf, am_in, am_ar, am_fit, am_ld, am_ct, Nat.reduceLT, Nat.reduceEqDiff, reduceIte, Nat.reduceAdd, Nat.reduceLeDiff, Nat.reduceSub, Bool.false_eq_true, if_true, if_false, ite_true, ite_false, List.length_cons, List.length_nil, Nat.zero_add, Nat.add_zero, and_true, true_and, true_or, or_true, and_self, Nat.le_refl, Nat.lt_irrefl, gI_sI, gL_sL, gQ_sQ, gI_sJ, gI_sL, gI_sQ, gL_sI, gL_sQ, gL_sJ, gQ_sI, gQ_sL, gQ_sJ, gN_sI, gN_sL, gN_sQ, gN_sJ, E_aald_0, E_b2_0, E_cV_a, E_cV_b, E_c_0, E_dup_0, E_dup_1, E_getI_0, E_getR_0, E_inc_a, E_inc_b, E_jl_0, E_jmp_0, E_jz_0, E_kk, E_ldI_a, E_ldI_b, E_ldR_a, E_ldR_b, E_max_0, E_putI_0, E_putR_0, E_putZ_0, E_rV_0, E_stI_0, E_stR_0, aL_90, aL_91, am_cc, am_nl, am_ok, am_pop, am_rt, am_set, cC_10, cC_2, cC_3, cC_6, cC_9, cC_90, cC_91, rQ_90, rQ_91, rR_1000, rR_1003, rR_700, rR_701, sN_1008, sN_90, sN_91, kX9_hear, kX9_hear_0, kX9_hear_1, c0, h0]
    rw [e] at hB
    exact hX x1 v f1 hB
  | succ r ih =>
    intro i v x1 hi f1 hB
    have hlt : i < gN x 3 := by omega
    have c0 : gI x1 702 0 = nI (gN x 3) := by rw [f1.gi rfl]; exact hS.1.2.2.1
    have h2 := nI_t hlt (by omega)
    have h3 : vp_in (nI i) 10 := vp_in_nI (by omega) (by omega)
    have h4 : (nI i).toNatClampNeg = i := nI_clamp (by omega)
    have h6 : i < gN x1 3 := by rw [f1.gn]; exact hlt
    obtain ⟨p1, p2, p3, p4, p5⟩ := hB.1 i h6
    obtain ⟨c, q1, q2⟩ := hB.2.1.1 i
    have go := ih (i + 1)
    rw [hcN_s] at go
    generalize hcN m i = m1 at *
    by_cases q : gI m1 34 i < 256
    · have hc256 : c < 256 := by
        rw [q1, show (256 : Int32) = nI 256 by decide] at q
        exact (nI_ltI (by omega) (by omega)).mp q
      rw [hX9_hear 24]
      rcases Nat.eq_zero_or_pos c with hz | hz
      · have e1 : hc1 m1 i = m1 := by
          unfold hc1
          rw [if_neg (fun z => absurd z.2 (by rw [q1, hz]; decide))]
        have e2 : gI m1 34 i = nI 0 := by rw [q1, hz]
        rw [e1] at go
        have hB2 := hB.up h6 (c := 0) (by omega) q
        rw [sI_idv e2] at hB2
        have q0 : nI 0 < 256 := by decide
        have k0 : nI 0 - 1 < 0 := by decide
        simp only [am_run_s, bt, lf, am_in, am_ar, am_fit, am_ld, am_ct, Nat.reduceLT, Nat.reduceEqDiff, reduceIte, Nat.reduceAdd, Nat.reduceLeDiff, Nat.reduceSub, Bool.false_eq_true, if_true, if_false, ite_true, ite_false, List.length_cons, List.length_nil, Nat.zero_add, Nat.add_zero, and_true, true_and, true_or, or_true, and_self, Nat.le_refl, Nat.lt_irrefl, gI_sI, gL_sL, gQ_sQ, gI_sJ, gI_sL, gI_sQ, gL_sI, gL_sQ, gL_sJ, gQ_sI, gQ_sL, gQ_sJ, gN_sI, gN_sL, gN_sQ, gN_sJ, E_aald_0, E_b2_0, E_cV_a, E_cV_b, E_c_0, E_dup_0, E_dup_1, E_getI_0, E_getR_0, E_inc_a, E_inc_b, E_jl_0, E_jmp_0, E_jz_0, E_kk, E_ldI_a, E_ldI_b, E_ldR_a, E_ldR_b, E_max_0, E_putI_0, E_putR_0, E_putZ_0, E_rV_0, E_stI_0, E_stR_0, aL_90, aL_91, am_cc, am_nl, am_ok, am_pop, am_rt, am_set, cC_10, cC_2, cC_3, cC_6, cC_9, cC_90, cC_91, rQ_90, rQ_91, rR_1000, rR_1003, rR_700, rR_701, sN_1008, sN_90, sN_91, kX9_hear, kX9_hear_0, kX9_hear_1, c0, h2, h3, h4, p1, h6, ↓s_nodeIsOff i x1 _ h6, bI_z, p3, e2, q0, k0, not_true_eq_false, not_false_eq_true, nI_1]
        exact go _ _ (by omega) (f1.si rfl) hB2
      · obtain ⟨d, rfl⟩ : ∃ d, c = d + 1 := ⟨c - 1, by omega⟩
        have e1 : hc1 m1 i = sI m1 34 i (nI d) := by
          unfold hc1
          rw [if_pos ⟨q, by rw [q1]; exact nI_gt0 (by omega) (by omega)⟩, q1, nI_m1]
        rw [e1] at go
        have hB2 := hB.up h6 (c := d) (by omega) q
        have q0 : nI (d + 1) < 256 := by rw [← q1]; exact q
        have k0 : ¬ nI d < 0 := nI_pos (by omega)
        simp only [am_run_s, bt, lf, am_in, am_ar, am_fit, am_ld, am_ct, Nat.reduceLT, Nat.reduceEqDiff, reduceIte, Nat.reduceAdd, Nat.reduceLeDiff, Nat.reduceSub, Bool.false_eq_true, if_true, if_false, ite_true, ite_false, List.length_cons, List.length_nil, Nat.zero_add, Nat.add_zero, and_true, true_and, true_or, or_true, and_self, Nat.le_refl, Nat.lt_irrefl, gI_sI, gL_sL, gQ_sQ, gI_sJ, gI_sL, gI_sQ, gL_sI, gL_sQ, gL_sJ, gQ_sI, gQ_sL, gQ_sJ, gN_sI, gN_sL, gN_sQ, gN_sJ, E_aald_0, E_b2_0, E_cV_a, E_cV_b, E_c_0, E_dup_0, E_dup_1, E_getI_0, E_getR_0, E_inc_a, E_inc_b, E_jl_0, E_jmp_0, E_jz_0, E_kk, E_ldI_a, E_ldI_b, E_ldR_a, E_ldR_b, E_max_0, E_putI_0, E_putR_0, E_putZ_0, E_rV_0, E_stI_0, E_stR_0, aL_90, aL_91, am_cc, am_nl, am_ok, am_pop, am_rt, am_set, cC_10, cC_2, cC_3, cC_6, cC_9, cC_90, cC_91, rQ_90, rQ_91, rR_1000, rR_1003, rR_700, rR_701, sN_1008, sN_90, sN_91, kX9_hear, kX9_hear_0, kX9_hear_1, c0, h2, h3, h4, p1, h6, ↓s_nodeIsOff i x1 _ h6, bI_z, p3, q1, q0, nI_m1, k0, not_true_eq_false, not_false_eq_true, nI_1]
        exact go _ _ (by omega) (f1.si rfl) hB2
    · have e1 : hc1 m1 i = m1 := by
        unfold hc1
        rw [if_neg (fun z => q z.1)]
      rw [e1] at go
      rw [hX9_hear 16]
      simp only [am_run_s, bt, lf, am_in, am_ar, am_fit, am_ld, am_ct, Nat.reduceLT, Nat.reduceEqDiff, reduceIte, Nat.reduceAdd, Nat.reduceLeDiff, Nat.reduceSub, Bool.false_eq_true, if_true, if_false, ite_true, ite_false, List.length_cons, List.length_nil, Nat.zero_add, Nat.add_zero, and_true, true_and, true_or, or_true, and_self, Nat.le_refl, Nat.lt_irrefl, gI_sI, gL_sL, gQ_sQ, gI_sJ, gI_sL, gI_sQ, gL_sI, gL_sQ, gL_sJ, gQ_sI, gQ_sL, gQ_sJ, gN_sI, gN_sL, gN_sQ, gN_sJ, E_aald_0, E_b2_0, E_cV_a, E_cV_b, E_c_0, E_dup_0, E_dup_1, E_getI_0, E_getR_0, E_inc_a, E_inc_b, E_jl_0, E_jmp_0, E_jz_0, E_kk, E_ldI_a, E_ldI_b, E_ldR_a, E_ldR_b, E_max_0, E_putI_0, E_putR_0, E_putZ_0, E_rV_0, E_stI_0, E_stR_0, aL_90, aL_91, am_cc, am_nl, am_ok, am_pop, am_rt, am_set, cC_10, cC_2, cC_3, cC_6, cC_9, cC_90, cC_91, rQ_90, rQ_91, rR_1000, rR_1003, rR_700, rR_701, sN_1008, sN_90, sN_91, kX9_hear, kX9_hear_0, kX9_hear_1, c0, h2, h3, h4, p1, h6, ↓s_nodeIsOff i x1 _ h6, bI_z, p3, q, not_true_eq_false, not_false_eq_true, nI_1]
      exact go _ x1 (by omega) f1 hB
def PHN : Nat → Bool := inL [1116]
theorem l_haX {x m : HS} {w t : Nat} {tm : Int32} (hS : STc x m) (hw : w < gN x 10) (ht : gI m 1342 0 = nI t) (ht2 : t < 2147483646) {Q : PO} (hX : ∀ x' v, frm PHN x x' → v_ca2 x' (haN w m (gN x 10)) → am_T (kX9_hear S1) MM Q 164 [some rW, some (rO w), some (.inl tm), some (.inl (nI (gN x 10))), v] [] x' 0 0) :
    ∀ (r i : Nat) (v : Option AV) (x1 : HS), i + r = gN x 10 → frm PHN x x1 → v_ca2 x1 (haN w m i) → am_T (kX9_hear S1) MM Q 118 [some rW, some (rO w), some (.inl tm), some (.inl (nI i)), v] [] x1 0 0 := by
  intro r
  have h24 := hS.1.2.1
  induction r with
  | zero =>
    intro i v x1 hi f1 hC
    have e : i = gN x 10 := by omega
    have c0 : gI x1 703 0 = nI (gN x 10) := by rw [f1.gi rfl]; exact hS.1.2.2.2.2.1
    have h0 : ¬ nI (gN x 10) < nI (gN x 10) := nI_nlt (by omega) (by omega)
    rw [e] at hC ⊢
    rw [hX9_hear 4]
    simp only [am_run_s, bt, lf, am_in, am_ar, am_fit, am_ld, am_ct, Nat.reduceLT, Nat.reduceEqDiff, reduceIte, Nat.reduceAdd, Nat.reduceLeDiff, Nat.reduceSub, Bool.false_eq_true, if_true, if_false, ite_true, ite_false, List.length_cons, List.length_nil, Nat.zero_add, Nat.add_zero, and_true, true_and, true_or, or_true, and_self, Nat.le_refl, Nat.lt_irrefl, gI_sI, gL_sL, gQ_sQ, gI_sJ, gI_sL, gI_sQ, gL_sI, gL_sQ, gL_sJ, gQ_sI, gQ_sL, gQ_sJ, gN_sI, gN_sL, gN_sQ, gN_sJ, E_aald_0, E_b2_0, E_cV_a, E_cV_b, E_c_0, E_dup_0, E_dup_1, E_getI_0, E_getR_0, E_inc_a, E_inc_b, E_jl_0, E_jmp_0, E_jz_0, E_kk, E_ldI_a, E_ldI_b, E_ldR_a, E_ldR_b, E_max_0, E_putI_0, E_putR_0, E_putZ_0, E_rV_0, E_stI_0, E_stR_0, aL_90, aL_91, am_cc, am_nl, am_ok, am_pop, am_rt, am_set, cC_10, cC_2, cC_3, cC_6, cC_9, cC_90, cC_91, rQ_90, rQ_91, rR_1000, rR_1003, rR_700, rR_701, sN_1008, sN_90, sN_91, kX9_hear, kX9_hear_0, kX9_hear_1, am_run_z, c0, h0]
    exact hX x1 v f1 hC
  | succ r ih =>
    intro i v x1 hi f1 hC
    have hlt : i < gN x 10 := by omega
    have c0 : gI x1 703 0 = nI (gN x 10) := by rw [f1.gi rfl]; exact hS.1.2.2.2.2.1
    have h2 := nI_t hlt (by omega)
    have h3 : vp_in (nI i) 24 := vp_in_nI (by omega) (by omega)
    have h4 : (nI i).toNatClampNeg = i := nI_clamp (by omega)
    have gn : gN x1 10 = gN x 10 := f1.gn 10
    have h6 : i < gN x1 10 := by rw [gn]; exact hlt
    have h7 : w < gN x1 10 := by rw [gn]; exact hw
    obtain ⟨z1, z2, z3, z4, z5, z6⟩ := hS.2.2.1.1 i hlt
    have h5 : gQ x1 91 i = some (10, i) := by rw [f1.gq]; exact z1
    have gm := haN_f w m i
    have c1 : gI x1 1103 i = gI (haN w m i) 39 i := by rw [f1.gi rfl, gm.gi rfl]; exact z3
    have c2 : gI x1 1106 i = gI (haN w m i) 42 i := by rw [f1.gi rfl, gm.gi rfl]; exact z6
    have c3 : gI x1 1100 w = nI w := by rw [f1.gi rfl]; exact (hS.2.2.1.1 w hw).2.1
    have tm1 : gI (haN w m i) 1342 0 = nI t := by rw [gm.gi rfl]; exact ht
    have go := ih (i + 1)
    rw [haN_s] at go
    generalize haN w m i = m1 at *
    by_cases q : gI m1 39 i = 3 ∧ gI m1 42 i = nI w
    · have e1 : ha1 m1 w i = sI m1 47 i (gI m1 1342 0 + 1) := by
        unfold ha1
        rw [if_pos q]
      rw [e1] at go
      rw [hX9_hear 22]
      simp only [am_run_s, bt, lf, am_in, am_ar, am_fit, am_ld, am_ct, Nat.reduceLT, Nat.reduceEqDiff, reduceIte, Nat.reduceAdd, Nat.reduceLeDiff, Nat.reduceSub, Bool.false_eq_true, if_true, if_false, ite_true, ite_false, List.length_cons, List.length_nil, Nat.zero_add, Nat.add_zero, and_true, true_and, true_or, or_true, and_self, Nat.le_refl, Nat.lt_irrefl, gI_sI, gL_sL, gQ_sQ, gI_sJ, gI_sL, gI_sQ, gL_sI, gL_sQ, gL_sJ, gQ_sI, gQ_sL, gQ_sJ, gN_sI, gN_sL, gN_sQ, gN_sJ, E_aald_0, E_b2_0, E_cV_a, E_cV_b, E_c_0, E_dup_0, E_dup_1, E_getI_0, E_getR_0, E_inc_a, E_inc_b, E_jl_0, E_jmp_0, E_jz_0, E_kk, E_ldI_a, E_ldI_b, E_ldR_a, E_ldR_b, E_max_0, E_putI_0, E_putR_0, E_putZ_0, E_rV_0, E_stI_0, E_stR_0, aL_90, aL_91, am_cc, am_nl, am_ok, am_pop, am_rt, am_set, cC_10, cC_2, cC_3, cC_6, cC_9, cC_90, cC_91, rQ_90, rQ_91, rR_1000, rR_1003, rR_700, rR_701, sN_1008, sN_90, sN_91, kX9_hear, kX9_hear_0, kX9_hear_1, c0, h2, h3, h4, h5, h6, ↓s_isAns i w x1 _ h6 h7, bI_z, c1, c2, c3, q, and_self, not_true_eq_false, not_false_eq_true, am_b1, nI_1]
      refine go _ _ (by omega) (f1.si rfl) (fun j hj => ?_)
      have hj : j < gN x1 10 := hj
      by_cases e : j = i
      · subst e
        obtain ⟨a1, a2, a3, a4⟩ := hC j hj
        unfold ca2W
        simp only [gI_sI, gL_sL, gQ_sQ, gI_sJ, gI_sL, gI_sQ, gL_sI, gL_sQ, gL_sJ, gQ_sI, gQ_sL, gQ_sJ, gN_sI, gN_sL, gN_sQ, gN_sJ, Nat.reduceLT, Nat.reduceEqDiff, reduceIte, Nat.reduceAdd, Nat.reduceLeDiff, Nat.reduceSub, Bool.false_eq_true, if_true, if_false, ite_true, ite_false, List.length_cons, List.length_nil, Nat.zero_add, Nat.add_zero, and_true, true_and, true_or, or_true, and_self, Nat.le_refl, Nat.lt_irrefl]
        refine ⟨Or.inr rfl, fun y => ?_, fun y => ?_, fun y => i32_irr _⟩
        · rw [q.1] at y
          exact absurd y (by decide)
        · rw [q.1] at y
          exact absurd y (by decide)
      · refine (hC j hj).to ?_ rfl rfl rfl ?_ rfl
        · simp only [gI_sI, gL_sL, gQ_sQ, gI_sJ, gI_sL, gI_sQ, gL_sI, gL_sQ, gL_sJ, gQ_sI, gQ_sL, gQ_sJ, gN_sI, gN_sL, gN_sQ, gN_sJ, Nat.reduceLT, Nat.reduceEqDiff, reduceIte, Nat.reduceAdd, Nat.reduceLeDiff, Nat.reduceSub, Bool.false_eq_true, if_true, if_false, ite_true, ite_false, List.length_cons, List.length_nil, Nat.zero_add, Nat.add_zero, and_true, true_and, true_or, or_true, and_self, Nat.le_refl, Nat.lt_irrefl]; rw [if_neg e]
        · simp only [gI_sI, gL_sL, gQ_sQ, gI_sJ, gI_sL, gI_sQ, gL_sI, gL_sQ, gL_sJ, gQ_sI, gQ_sL, gQ_sJ, gN_sI, gN_sL, gN_sQ, gN_sJ, Nat.reduceLT, Nat.reduceEqDiff, reduceIte, Nat.reduceAdd, Nat.reduceLeDiff, Nat.reduceSub, Bool.false_eq_true, if_true, if_false, ite_true, ite_false, List.length_cons, List.length_nil, Nat.zero_add, Nat.add_zero, and_true, true_and, true_or, or_true, and_self, Nat.le_refl, Nat.lt_irrefl]; rw [if_neg e]
    · have e1 : ha1 m1 w i = m1 := by
        unfold ha1
        rw [if_neg q]
      rw [e1] at go
      rw [hX9_hear 15]
      simp only [am_run_s, bt, lf, am_in, am_ar, am_fit, am_ld, am_ct, Nat.reduceLT, Nat.reduceEqDiff, reduceIte, Nat.reduceAdd, Nat.reduceLeDiff, Nat.reduceSub, Bool.false_eq_true, if_true, if_false, ite_true, ite_false, List.length_cons, List.length_nil, Nat.zero_add, Nat.add_zero, and_true, true_and, true_or, or_true, and_self, Nat.le_refl, Nat.lt_irrefl, gI_sI, gL_sL, gQ_sQ, gI_sJ, gI_sL, gI_sQ, gL_sI, gL_sQ, gL_sJ, gQ_sI, gQ_sL, gQ_sJ, gN_sI, gN_sL, gN_sQ, gN_sJ, E_aald_0, E_b2_0, E_cV_a, E_cV_b, E_c_0, E_dup_0, E_dup_1, E_getI_0, E_getR_0, E_inc_a, E_inc_b, E_jl_0, E_jmp_0, E_jz_0, E_kk, E_ldI_a, E_ldI_b, E_ldR_a, E_ldR_b, E_max_0, E_putI_0, E_putR_0, E_putZ_0, E_rV_0, E_stI_0, E_stR_0, aL_90, aL_91, am_cc, am_nl, am_ok, am_pop, am_rt, am_set, cC_10, cC_2, cC_3, cC_6, cC_9, cC_90, cC_91, rQ_90, rQ_91, rR_1000, rR_1003, rR_700, rR_701, sN_1008, sN_90, sN_91, kX9_hear, kX9_hear_0, kX9_hear_1, c0, h2, h3, h4, h5, h6, ↓s_isAns i w x1 _ h6 h7, bI_z, c1, c2, c3, q, not_true_eq_false, not_false_eq_true, nI_1]
      exact go _ x1 (by omega) f1 hC
def PH1 : Nat → Bool := inL [1006, 1112, 1114, 304, 305, 26, 27, 28, 29]
def PM3 (f : Nat) : Bool := PNT f || inL [1348, 49, 51] f
theorem PM3_n (f : Nat) (h : PM3 f = false) : PNT f = false := by
  unfold PM3 at h
  rw [Bool.or_eq_false_iff] at h
  exact h.1
def PHE : Nat → Bool := inL [1006, 1112, 1114, 304, 305, 26, 27, 28, 29, 401, 1116, 1015, 1005]
theorem c_hear {x m : HS} {w t : Nat} (hS : STc x m) (hB : BV x m) (hT : v_tal x m) (hL : v_log x m) (hC : v_ca2 x m) (hu : gI m 1344 0 = nI w) (hw : w < gN x 10) (hca : gI x 1009 0 = gI m 1347 0) (hbe : gI x 1010 0 = gI m 1345 0) (htx : gI x 1004 0 = nI t) (ht : gI m 1342 0 = nI t) (ht2 : t < 2147483646) (hhe : gI x 1006 0 = gI m 1348 0) {Q : PO} (hQ : ∀ x', frx PHE x x' → gQ x' 1008 0 = none → frm PZR m (heardM m w (gN x 3) (gN x 10)) → BV x' (heardM m w (gN x 3) (gN x 10)) → v_tal x' (heardM m w (gN x 3) (gN x 10)) → v_log x' (heardM m w (gN x 3) (gN x 10)) → v_ca2 x' (heardM m w (gN x 3) (gN x 10)) → gI x' 1015 0 = 0 → gI x' 1005 0 = gI (heardM m w (gN x 3) (gN x 10)) 1343 0 → gI x' 1006 0 = gI (heardM m w (gN x 3) (gN x 10)) 1348 0 → Q none x') : MM 75 [rW, rO w] x Q := by
  have h10 := hS.1.1
  have h24 := hS.1.2.1
  have hnum := (hS.2.2.1.1 w hw).2.1
  unfold heardM at hQ
  rw [ht] at hQ
  rw [eX9_hear 34]
  simp only [am_run_s, bt, lf, am_in, am_ar, am_fit, am_ld, am_ct, Nat.reduceLT, Nat.reduceEqDiff, reduceIte, Nat.reduceAdd, Nat.reduceLeDiff, Nat.reduceSub, Bool.false_eq_true, if_true, if_false, ite_true, ite_false, List.length_cons, List.length_nil, Nat.zero_add, Nat.add_zero, and_true, true_and, true_or, or_true, and_self, Nat.le_refl, Nat.lt_irrefl, gI_sI, gL_sL, gQ_sQ, gI_sJ, gI_sL, gI_sQ, gL_sI, gL_sQ, gL_sJ, gQ_sI, gQ_sL, gQ_sJ, gN_sI, gN_sL, gN_sQ, gN_sJ, E_aald_0, E_b2_0, E_cV_a, E_cV_b, E_c_0, E_dup_0, E_dup_1, E_getI_0, E_getR_0, E_inc_a, E_inc_b, E_jl_0, E_jmp_0, E_jz_0, E_kk, E_ldI_a, E_ldI_b, E_ldR_a, E_ldR_b, E_max_0, E_putI_0, E_putR_0, E_putZ_0, E_rV_0, E_stI_0, E_stR_0, aL_90, aL_91, am_cc, am_nl, am_ok, am_pop, am_rt, am_set, cC_10, cC_2, cC_3, cC_6, cC_9, cC_90, cC_91, rQ_90, rQ_91, rR_1000, rR_1003, rR_700, rR_701, sN_1008, sN_90, sN_91, kX9_hear, kX9_hear_0, kX9_hear_1, am_run_z, hw, hnum, htx, hca]
  generalize nI t - gI m 1347 0 = tm at hQ ⊢
  have f1 : frm PH1 x (sI (sI (sI x 1006 0 (gI x 1006 0 + 1)) 1112 w (gI x 1112 w + 1)) 1114 w (if gI x 1114 w < tm then tm else gI x 1114 w)) := ((frm.rf.si rfl).si rfl).si rfl
  have v1 : ∀ j, gI (sI (sI (sI x 1006 0 (gI x 1006 0 + 1)) 1112 w (gI x 1112 w + 1)) 1114 w (if gI x 1114 w < tm then tm else gI x 1114 w)) 1112 j = if j = w then gI x 1112 w + 1 else gI x 1112 j := by
    intro j; simp only [gI_sI, gL_sL, gQ_sQ, gI_sJ, gI_sL, gI_sQ, gL_sI, gL_sQ, gL_sJ, gQ_sI, gQ_sL, gQ_sJ, gN_sI, gN_sL, gN_sQ, gN_sJ, Nat.reduceLT, Nat.reduceEqDiff, reduceIte, Nat.reduceAdd, Nat.reduceLeDiff, Nat.reduceSub, Bool.false_eq_true, if_true, if_false, ite_true, ite_false, List.length_cons, List.length_nil, Nat.zero_add, Nat.add_zero, and_true, true_and, true_or, or_true, and_self, Nat.le_refl, Nat.lt_irrefl]
  have v2 : gI (sI (sI (sI x 1006 0 (gI x 1006 0 + 1)) 1112 w (gI x 1112 w + 1)) 1114 w (if gI x 1114 w < tm then tm else gI x 1114 w)) 1006 0 = gI x 1006 0 + 1 := by simp only [gI_sI, gL_sL, gQ_sQ, gI_sJ, gI_sL, gI_sQ, gL_sI, gL_sQ, gL_sJ, gQ_sI, gQ_sL, gQ_sJ, gN_sI, gN_sL, gN_sQ, gN_sJ, Nat.reduceLT, Nat.reduceEqDiff, reduceIte, Nat.reduceAdd, Nat.reduceLeDiff, Nat.reduceSub, Bool.false_eq_true, if_true, if_false, ite_true, ite_false, List.length_cons, List.length_nil, Nat.zero_add, Nat.add_zero, and_true, true_and, true_or, or_true, and_self, Nat.le_refl, Nat.lt_irrefl]
  have v3 : ∀ j, gI (sI (sI (sI x 1006 0 (gI x 1006 0 + 1)) 1112 w (gI x 1112 w + 1)) 1114 w (if gI x 1114 w < tm then tm else gI x 1114 w)) 1114 j = if j = w then (if gI x 1114 w < tm then tm else gI x 1114 w) else gI x 1114 j := by
    intro j; simp only [gI_sI, gL_sL, gQ_sQ, gI_sJ, gI_sL, gI_sQ, gL_sI, gL_sQ, gL_sJ, gQ_sI, gQ_sL, gQ_sJ, gN_sI, gN_sL, gN_sQ, gN_sJ, Nat.reduceLT, Nat.reduceEqDiff, reduceIte, Nat.reduceAdd, Nat.reduceLeDiff, Nat.reduceSub, Bool.false_eq_true, if_true, if_false, ite_true, ite_false, List.length_cons, List.length_nil, Nat.zero_add, Nat.add_zero, and_true, true_and, true_or, or_true, and_self, Nat.le_refl, Nat.lt_irrefl]
  have hL1 : v_log (sI (sI (sI x 1006 0 (gI x 1006 0 + 1)) 1112 w (gI x 1112 w + 1)) 1114 w (if gI x 1114 w < tm then tm else gI x 1114 w)) m := hL
  generalize sI (sI (sI x 1006 0 (gI x 1006 0 + 1)) 1112 w (gI x 1112 w + 1)) 1114 w (if gI x 1114 w < tm then tm else gI x 1114 w) = x1 at f1 v1 v2 v3 hL1 ⊢
  rw [hbe]
  refine c_logAdd hL1 hu rfl ht (fun x2 f2 hL2 => ?_)
  simp only [am_run_s, bt, lf, am_in, am_ar, am_fit, am_ld, am_ct, Nat.reduceLT, Nat.reduceEqDiff, reduceIte, Nat.reduceAdd, Nat.reduceLeDiff, Nat.reduceSub, Bool.false_eq_true, if_true, if_false, ite_true, ite_false, List.length_cons, List.length_nil, Nat.zero_add, Nat.add_zero, and_true, true_and, true_or, or_true, and_self, Nat.le_refl, Nat.lt_irrefl, gI_sI, gL_sL, gQ_sQ, gI_sJ, gI_sL, gI_sQ, gL_sI, gL_sQ, gL_sJ, gQ_sI, gQ_sL, gQ_sJ, gN_sI, gN_sL, gN_sQ, gN_sJ, E_aald_0, E_b2_0, E_cV_a, E_cV_b, E_c_0, E_dup_0, E_dup_1, E_getI_0, E_getR_0, E_inc_a, E_inc_b, E_jl_0, E_jmp_0, E_jz_0, E_kk, E_ldI_a, E_ldI_b, E_ldR_a, E_ldR_b, E_max_0, E_putI_0, E_putR_0, E_putZ_0, E_rV_0, E_stI_0, E_stR_0, aL_90, aL_91, am_cc, am_nl, am_ok, am_pop, am_rt, am_set, cC_10, cC_2, cC_3, cC_6, cC_9, cC_90, cC_91, rQ_90, rQ_91, rR_1000, rR_1003, rR_700, rR_701, sN_1008, sN_90, sN_91, kX9_hear, kX9_hear_0, kX9_hear_1, am_run_z]
  have fn := nts_f m tm
  have ga0 : frm PM3 m (hd_a (nts m tm) w) := (((nts_f m tm).mo PM3_n).si rfl).si rfl
  have ga : frm PM3 m (hd_b (hd_a (nts m tm) w) w tm) := by
    unfold hd_b
    split
    · exact ga0.si rfl
    · exact ga0
  have gaR0 : frm PZR m (hd_a (nts m tm) w) := (((nts_f m tm).mo PZR_nt).si rfl).si rfl
  have gaR : frm PZR m (hd_b (hd_a (nts m tm) w) w tm) := by
    unfold hd_b
    split
    · exact gaR0.si rfl
    · exact gaR0
  have z1 : ∀ i, gI (hd_a (nts m tm) w) 51 i = gI m 51 i := fun i => (fn.gi rfl : gI (nts m tm) 51 i = gI m 51 i)
  have z2 : ∀ j, gI (hd_a (nts m tm) w) 49 j = if j = w then gI m 49 w + 1 else gI m 49 j := by
    intro j
    have z : ∀ i, gI (nts m tm) 49 i = gI m 49 i := fun i => fn.gi rfl
    unfold hd_a
    simp only [gI_sI, gL_sL, gQ_sQ, gI_sJ, gI_sL, gI_sQ, gL_sI, gL_sQ, gL_sJ, gQ_sI, gQ_sL, gQ_sJ, gN_sI, gN_sL, gN_sQ, gN_sJ, Nat.reduceLT, Nat.reduceEqDiff, reduceIte, Nat.reduceAdd, Nat.reduceLeDiff, Nat.reduceSub, Bool.false_eq_true, if_true, if_false, ite_true, ite_false, List.length_cons, List.length_nil, Nat.zero_add, Nat.add_zero, and_true, true_and, true_or, or_true, and_self, Nat.le_refl, Nat.lt_irrefl]
    rw [z, z]
  have z3 : gI (hd_a (nts m tm) w) 1348 0 = gI m 1348 0 + 1 := by
    have z : gI (nts m tm) 1348 0 = gI m 1348 0 := fn.gi rfl
    unfold hd_a
    simp only [gI_sI, gL_sL, gQ_sQ, gI_sJ, gI_sL, gI_sQ, gL_sI, gL_sQ, gL_sJ, gQ_sI, gQ_sL, gQ_sJ, gN_sI, gN_sL, gN_sQ, gN_sJ, Nat.reduceLT, Nat.reduceEqDiff, reduceIte, Nat.reduceAdd, Nat.reduceLeDiff, Nat.reduceSub, Bool.false_eq_true, if_true, if_false, ite_true, ite_false, List.length_cons, List.length_nil, Nat.zero_add, Nat.add_zero, and_true, true_and, true_or, or_true, and_self, Nat.le_refl, Nat.lt_irrefl]
    rw [z]
  have e1 : ∀ j, gI (hd_b (hd_a (nts m tm) w) w tm) 49 j = if j = w then gI m 49 w + 1 else gI m 49 j := by
    intro j
    rw [← z2]
    unfold hd_b
    split <;> rfl
  have e2 : gI (hd_b (hd_a (nts m tm) w) w tm) 1348 0 = gI m 1348 0 + 1 := by
    rw [← z3]
    unfold hd_b
    split <;> rfl
  have e3 : ∀ j, gI (hd_b (hd_a (nts m tm) w) w tm) 51 j = if j = w then (if gI m 51 w < tm then tm else gI m 51 w) else gI m 51 j := by
    intro j
    unfold hd_b
    rw [z1]
    by_cases q : gI m 51 w < tm
    · rw [if_pos q, if_pos q]
      simp only [gI_sI, gL_sL, gQ_sQ, gI_sJ, gI_sL, gI_sQ, gL_sI, gL_sQ, gL_sJ, gQ_sI, gQ_sL, gQ_sJ, gN_sI, gN_sL, gN_sQ, gN_sJ, Nat.reduceLT, Nat.reduceEqDiff, reduceIte, Nat.reduceAdd, Nat.reduceLeDiff, Nat.reduceSub, Bool.false_eq_true, if_true, if_false, ite_true, ite_false, List.length_cons, List.length_nil, Nat.zero_add, Nat.add_zero, and_true, true_and, true_or, or_true, and_self, Nat.le_refl, Nat.lt_irrefl]
      rw [z1]
    · rw [if_neg q, if_neg q, z1]
      by_cases y : j = w
      · rw [if_pos y, y]
      · rw [if_neg y]
  have hL3 : v_log x2 (hd_b (hd_a (nts m tm) w) w tm) := by
    unfold hd_b
    split <;> exact hL2
  have f12 : frm PH1 x x2 := f1.tr (f2.mo (inL_mo rfl))
  generalize hd_b (hd_a (nts m tm) w) w tm = mc at hQ ga gaR e1 e2 e3 hL3
  have k1 : ∀ j, gI x2 1112 j = if j = w then gI x 1112 w + 1 else gI x 1112 j := fun j => by rw [f2.gi rfl]; exact v1 j
  have k2 : gI x2 1006 0 = gI mc 1348 0 := by rw [f2.gi rfl, v2, e2, hhe]
  have k3 : ∀ j, gI x2 1114 j = if j = w then (if gI x 1114 w < tm then tm else gI x 1114 w) else gI x 1114 j := fun j => by rw [f2.gi rfl]; exact v3 j
  have hT2 : v_tal x2 mc := by
    obtain ⟨y1, y2⟩ := hT
    obtain ⟨u1, u2, u3⟩ := y1 w hw
    refine ⟨fun j hj => ?_, fun j hj => ?_⟩
    · rw [f12.gn] at hj
      obtain ⟨y3, y4, y5⟩ := y1 j hj
      rw [k1, e1, k3, e3, u1, u3, y3, y5, f12.gi rfl, ga.gi rfl]
      exact ⟨rfl, y4, rfl⟩
    · rw [f12.gn] at hj
      obtain ⟨y3, y4⟩ := y2 j hj
      rw [e1, if_neg (by omega), ga.gi rfl]
      exact ⟨y3, y4⟩
  have hB2 : BV x2 mc := hB.cg f12.x ga rfl rfl
  have hC2 : v_ca2 x2 mc := hC.cg f12.x ga rfl rfl
  have hS2 : STc x2 mc := hS.cg (f12.x.mo (PXR_l rfl)) gaR
  have gn3 : gN x2 3 = gN x 3 := f12.gn 3
  have gn10 : gN x2 10 = gN x 10 := f12.gn 10
  rw [hX9_hear 2]
  simp only [am_run_s, bt, lf, am_in, am_ar, am_fit, am_ld, am_ct, Nat.reduceLT, Nat.reduceEqDiff, reduceIte, Nat.reduceAdd, Nat.reduceLeDiff, Nat.reduceSub, Bool.false_eq_true, if_true, if_false, ite_true, ite_false, List.length_cons, List.length_nil, Nat.zero_add, Nat.add_zero, and_true, true_and, true_or, or_true, and_self, Nat.le_refl, Nat.lt_irrefl, gI_sI, gL_sL, gQ_sQ, gI_sJ, gI_sL, gI_sQ, gL_sI, gL_sQ, gL_sJ, gQ_sI, gQ_sL, gQ_sJ, gN_sI, gN_sL, gN_sQ, gN_sJ, E_aald_0, E_b2_0, E_cV_a, E_cV_b, E_c_0, E_dup_0, E_dup_1, E_getI_0, E_getR_0, E_inc_a, E_inc_b, E_jl_0, E_jmp_0, E_jz_0, E_kk, E_ldI_a, E_ldI_b, E_ldR_a, E_ldR_b, E_max_0, E_putI_0, E_putR_0, E_putZ_0, E_rV_0, E_stI_0, E_stR_0, aL_90, aL_91, am_cc, am_nl, am_ok, am_pop, am_rt, am_set, cC_10, cC_2, cC_3, cC_6, cC_9, cC_90, cC_91, rQ_90, rQ_91, rR_1000, rR_1003, rR_700, rR_701, sN_1008, sN_90, sN_91, kX9_hear, kX9_hear_0, kX9_hear_1, am_run_z]
  refine l_hcX hS2 (fun x3 v f3 hB3 => ?_) (gN x2 3) 0 _ x2 (by omega) frm.rf hB2
  rw [gn3] at hB3
  have gh := hcN_f mc (gN x 3)
  have ghR : frm PZR mc (hcN mc (gN x 3)) := gh.mo PZR_hc
  have hS3 : STc x3 (hcN mc (gN x 3)) := hS2.cg (f3.x.mo (PXR_l rfl)) ghR
  have hC3 : v_ca2 x3 (hcN mc (gN x 3)) := hC2.cg f3.x gh rfl rfl
  have hT3 : v_tal x3 (hcN mc (gN x 3)) := hT2.cg f3.x gh rfl rfl
  have hL4 : v_log x3 (hcN mc (gN x 3)) := hL3.cg f3.x gh rfl rfl
  have t3 : gI (hcN mc (gN x 3)) 1342 0 = nI t := by rw [gh.gi rfl, ga.gi rfl]; exact ht
  have k4 : gI x3 1006 0 = gI (hcN mc (gN x 3)) 1348 0 := by rw [f3.gi rfl, gh.gi rfl]; exact k2
  have gn10' : gN x3 10 = gN x 10 := by rw [f3.gn, gn10]
  generalize hcN mc (gN x 3) = md at *
  refine l_haX hS3 (by rw [gn10']; exact hw) t3 ht2 (fun x4 v4 f4 hC4 => ?_) (gN x3 10) 0 _ x3 (by omega) frm.rf hC3
  rw [gn10'] at hC4
  have gA := haN_f w md (gN x 10)
  have gAR : frm PZR md (haN w md (gN x 10)) := gA.mo PZR_ha
  have hB4 : BV x4 (haN w md (gN x 10)) := hB3.cg f4.x gA rfl rfl
  have hT4 : v_tal x4 (haN w md (gN x 10)) := hT3.cg f4.x gA rfl rfl
  have hL5 : v_log x4 (haN w md (gN x 10)) := hL4.cg f4.x gA rfl rfl
  have k5 : gI x4 1006 0 = gI (haN w md (gN x 10)) 1348 0 := by rw [f4.gi rfl, gA.gi rfl]; exact k4
  have t4 : gI (haN w md (gN x 10)) 1342 0 = nI t := by rw [gA.gi rfl]; exact t3
  have gR := (gaR.tr ghR).tr gAR
  generalize haN w md (gN x 10) = me at *
  have fx : frm PHE x x4 := ((f12.mo (inL_mo rfl)).tr (f3.mo (inL_mo rfl))).tr (f4.mo (inL_mo rfl))
  have t5 : gI x4 1004 0 = nI t := by rw [fx.gi rfl]; exact htx
  have gc : frm (inL [1344, 1343]) me (hd_c me) := (frm.rf.si rfl).si rfl
  have gcR : frm PZR me (hd_c me) := (frm.rf.si rfl).si rfl
  have ef : gI (hd_c me) 1343 0 = nI t + 4 := by
    unfold hd_c
    simp only [gI_sI, gL_sL, gQ_sQ, gI_sJ, gI_sL, gI_sQ, gL_sI, gL_sQ, gL_sJ, gQ_sI, gQ_sL, gQ_sJ, gN_sI, gN_sL, gN_sQ, gN_sJ, Nat.reduceLT, Nat.reduceEqDiff, reduceIte, Nat.reduceAdd, Nat.reduceLeDiff, Nat.reduceSub, Bool.false_eq_true, if_true, if_false, ite_true, ite_false, List.length_cons, List.length_nil, Nat.zero_add, Nat.add_zero, and_true, true_and, true_or, or_true, and_self, Nat.le_refl, Nat.lt_irrefl]
    rw [t4]
  rw [hX9_hear 11]
  simp only [am_run_s, bt, lf, am_in, am_ar, am_fit, am_ld, am_ct, Nat.reduceLT, Nat.reduceEqDiff, reduceIte, Nat.reduceAdd, Nat.reduceLeDiff, Nat.reduceSub, Bool.false_eq_true, if_true, if_false, ite_true, ite_false, List.length_cons, List.length_nil, Nat.zero_add, Nat.add_zero, and_true, true_and, true_or, or_true, and_self, Nat.le_refl, Nat.lt_irrefl, gI_sI, gL_sL, gQ_sQ, gI_sJ, gI_sL, gI_sQ, gL_sI, gL_sQ, gL_sJ, gQ_sI, gQ_sL, gQ_sJ, gN_sI, gN_sL, gN_sQ, gN_sJ, E_aald_0, E_b2_0, E_cV_a, E_cV_b, E_c_0, E_dup_0, E_dup_1, E_getI_0, E_getR_0, E_inc_a, E_inc_b, E_jl_0, E_jmp_0, E_jz_0, E_kk, E_ldI_a, E_ldI_b, E_ldR_a, E_ldR_b, E_max_0, E_putI_0, E_putR_0, E_putZ_0, E_rV_0, E_stI_0, E_stR_0, aL_90, aL_91, am_cc, am_nl, am_ok, am_pop, am_rt, am_set, cC_10, cC_2, cC_3, cC_6, cC_9, cC_90, cC_91, rQ_90, rQ_91, rR_1000, rR_1003, rR_700, rR_701, sN_1008, sN_90, sN_91, kX9_hear, kX9_hear_0, kX9_hear_1, ↓s_lookAll, am_v, t5]
  have fy : frx (inL [1015, 1005]) x4 (sI (sQ (sI x4 1015 0 0) 1008 0 none) 1005 0 (nI t + 4)) := ((frx.rf.si rfl).sq).si rfl
  apply hQ
  · exact fx.x.tr (fy.mo (inL_mo rfl))
  · simp only [gI_sI, gL_sL, gQ_sQ, gI_sJ, gI_sL, gI_sQ, gL_sI, gL_sQ, gL_sJ, gQ_sI, gQ_sL, gQ_sJ, gN_sI, gN_sL, gN_sQ, gN_sJ, Nat.reduceLT, Nat.reduceEqDiff, reduceIte, Nat.reduceAdd, Nat.reduceLeDiff, Nat.reduceSub, Bool.false_eq_true, if_true, if_false, ite_true, ite_false, List.length_cons, List.length_nil, Nat.zero_add, Nat.add_zero, and_true, true_and, true_or, or_true, and_self, Nat.le_refl, Nat.lt_irrefl]
  · exact gR.tr gcR
  · exact hB4.cg fy gc rfl rfl
  · exact hT4.cg fy gc rfl rfl
  · exact hL5.cg fy gc rfl rfl
  · exact hC4.cg fy gc rfl rfl
  · simp only [gI_sI, gL_sL, gQ_sQ, gI_sJ, gI_sL, gI_sQ, gL_sI, gL_sQ, gL_sJ, gQ_sI, gQ_sL, gQ_sJ, gN_sI, gN_sL, gN_sQ, gN_sJ, Nat.reduceLT, Nat.reduceEqDiff, reduceIte, Nat.reduceAdd, Nat.reduceLeDiff, Nat.reduceSub, Bool.false_eq_true, if_true, if_false, ite_true, ite_false, List.length_cons, List.length_nil, Nat.zero_add, Nat.add_zero, and_true, true_and, true_or, or_true, and_self, Nat.le_refl, Nat.lt_irrefl]
  · rw [ef]; simp only [gI_sI, gL_sL, gQ_sQ, gI_sJ, gI_sL, gI_sQ, gL_sI, gL_sQ, gL_sJ, gQ_sI, gQ_sL, gQ_sJ, gN_sI, gN_sL, gN_sQ, gN_sJ, Nat.reduceLT, Nat.reduceEqDiff, reduceIte, Nat.reduceAdd, Nat.reduceLeDiff, Nat.reduceSub, Bool.false_eq_true, if_true, if_false, ite_true, ite_false, List.length_cons, List.length_nil, Nat.zero_add, Nat.add_zero, and_true, true_and, true_or, or_true, and_self, Nat.le_refl, Nat.lt_irrefl]
  · rw [fy.gi rfl, gc.gi rfl]; exact k5
