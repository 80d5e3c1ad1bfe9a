/-! ===== order: the class, on ===== -/
def oref : Option Nat → Option (Nat × Nat)
  | none => none
  | some w => some (10, w)
theorem l_llf {kk : Nat} {σ0 : HS} (h : Inv kk σ0) {lv : Nat → Bool} {Q : PO} : ∀ (r i : Nat) (σ : HS) (o : Option AV), i + r = gN σ0 10 → frm POX σ0 σ → LFX σ lv (gN σ0 10) → (∀ σ', frm PHX σ σ' → Q (some (.inr (.inr (oref (fnd σ0 lv r i))))) σ') →
    am_T (kX0_leastLeftThatFits S1) MM Q 2 [some (.inr (.inr (some (0, 0)))), some (.inl (nI i)), o] [] σ 0 0 := by
  obtain ⟨hw1, hw2, h24⟩ := h.wc
  obtain ⟨ok, hx, -⟩ := h.dd
  intro r
  induction r with
  | zero =>
    intro i σ o hi f0 hl hQ
    have e : i = gN σ0 10 := by omega
    subst e
    rw [hX0_leastLeftThatFits 7]
    have h0 : ¬ nI (gN σ0 10) < nI (gN σ0 10) := nI_nlt (by omega) (by omega)
    have c1 : gI σ 703 0 = nI (gN σ0 10) := by rw [f0.gi rfl]; exact hw1
    simp only [am_run_s, bt, lf, am_in, am_ar, am_fit, am_ld, am_ct, Nat.reduceLT, Nat.reduceEqDiff, reduceIte, Nat.reduceAdd, Nat.reduceLeDiff, Nat.reduceSub, Bool.false_eq_true, if_true, if_false, ite_true, ite_false, List.length_cons, List.length_nil, Nat.zero_add, Nat.add_zero, and_true, true_and, true_or, or_true, and_self, Nat.le_refl, Nat.lt_irrefl, gI_sI, gL_sL, gQ_sQ, gI_sJ, gI_sL, gI_sQ, gL_sI, gL_sQ, gL_sJ, gQ_sI, gQ_sL, gQ_sJ, gN_sI, gN_sL, gN_sQ, gN_sJ, E_aald_0, E_bald_0, E_cV_a, E_cV_b, E_c_0, E_getI_0, E_getR_0, E_inc_a, E_inc_b, E_jl_0, E_jmp_0, E_jz_0, E_kk, E_ldI_a, E_ldI_b, E_ldR_a, E_ldR_b, E_rR_0, E_stI_0, E_stR_0, aL_71, aL_91, am_cc, am_nl, am_ok, am_pop, am_rt, am_set, cC_0, cC_10, cC_6, cC_71, cC_91, rQ_91, rR_100, rR_102, rR_701, sN_91, kX0_leastLeftThatFits, c1, h0]
    exact hQ σ frm.rf
  | succ r ih =>
    intro i σ o hi f0 hl hQ
    have hk : i < gN σ0 10 := by omega
    have c1 : gI σ 703 0 = nI (gN σ0 10) := by rw [f0.gi rfl]; exact hw1
    have c4 : gQ σ 91 i = some (10, i) := by rw [f0.gq]; exact (h.2.1.1 i hk).1
    have h2 := nI_t hk (by omega)
    have h3 : vp_in (nI i) 24 := vp_in_nI (by omega) (by omega)
    have h4 : (nI i).toNatClampNeg = i := nI_clamp (by omega)
    have hb := hl i hk
    rw [fnd_s] at hQ
    cases e : lv i with
    | false =>
      have e0 : (bb (lv i) = 0) = True := by rw [bb_0, e]; simp
      rw [if_neg (fun z => by rw [e] at z; exact absurd z.1 (by decide))] at hQ
      rw [hX0_leastLeftThatFits 12]
      simp only [am_run_s, bt, lf, am_in, am_ar, am_fit, am_ld, am_ct, Nat.reduceLT, Nat.reduceEqDiff, reduceIte, Nat.reduceAdd, Nat.reduceLeDiff, Nat.reduceSub, Bool.false_eq_true, if_true, if_false, ite_true, ite_false, List.length_cons, List.length_nil, Nat.zero_add, Nat.add_zero, and_true, true_and, true_or, or_true, and_self, Nat.le_refl, Nat.lt_irrefl, gI_sI, gL_sL, gQ_sQ, gI_sJ, gI_sL, gI_sQ, gL_sI, gL_sQ, gL_sJ, gQ_sI, gQ_sL, gQ_sJ, gN_sI, gN_sL, gN_sQ, gN_sJ, E_aald_0, E_bald_0, E_cV_a, E_cV_b, E_c_0, E_getI_0, E_getR_0, E_inc_a, E_inc_b, E_jl_0, E_jmp_0, E_jz_0, E_kk, E_ldI_a, E_ldI_b, E_ldR_a, E_ldR_b, E_rR_0, E_stI_0, E_stR_0, aL_71, aL_91, am_cc, am_nl, am_ok, am_pop, am_rt, am_set, cC_0, cC_10, cC_6, cC_71, cC_91, rQ_91, rR_100, rR_102, rR_701, sN_91, kX0_leastLeftThatFits, c1, h2, h3, h4, hb, e0, nI_1]
      exact ih (i + 1) σ o (by omega) f0 hl hQ
    | true =>
      have e0 : (bb (lv i) = 0) = False := by rw [bb_0, e]; simp
      rw [hX0_leastLeftThatFits 26]
      simp only [am_run_s, bt, lf, am_in, am_ar, am_fit, am_ld, am_ct, Nat.reduceLT, Nat.reduceEqDiff, reduceIte, Nat.reduceAdd, Nat.reduceLeDiff, Nat.reduceSub, Bool.false_eq_true, if_true, if_false, ite_true, ite_false, List.length_cons, List.length_nil, Nat.zero_add, Nat.add_zero, and_true, true_and, true_or, or_true, and_self, Nat.le_refl, Nat.lt_irrefl, gI_sI, gL_sL, gQ_sQ, gI_sJ, gI_sL, gI_sQ, gL_sI, gL_sQ, gL_sJ, gQ_sI, gQ_sL, gQ_sJ, gN_sI, gN_sL, gN_sQ, gN_sJ, E_aald_0, E_bald_0, E_cV_a, E_cV_b, E_c_0, E_getI_0, E_getR_0, E_inc_a, E_inc_b, E_jl_0, E_jmp_0, E_jz_0, E_kk, E_ldI_a, E_ldI_b, E_ldR_a, E_ldR_b, E_rR_0, E_stI_0, E_stR_0, aL_71, aL_91, am_cc, am_nl, am_ok, am_pop, am_rt, am_set, cC_0, cC_10, cC_6, cC_71, cC_91, rQ_91, rR_100, rR_102, rR_701, sN_91, kX0_leastLeftThatFits, c1, h2, h3, h4, hb, e0, c4]
      refine c_pbo h hk f0 hl (fun σ1 f1 m1 => ?_)
      simp only [am_run_s, bt, lf, am_in, am_ar, am_fit, am_ld, am_ct, Nat.reduceLT, Nat.reduceEqDiff, reduceIte, Nat.reduceAdd, Nat.reduceLeDiff, Nat.reduceSub, Bool.false_eq_true, if_true, if_false, ite_true, ite_false, List.length_cons, List.length_nil, Nat.zero_add, Nat.add_zero, and_true, true_and, true_or, or_true, and_self, Nat.le_refl, Nat.lt_irrefl, gI_sI, gL_sL, gQ_sQ, gI_sJ, gI_sL, gI_sQ, gL_sI, gL_sQ, gL_sJ, gQ_sI, gQ_sL, gQ_sJ, gN_sI, gN_sL, gN_sQ, gN_sJ, E_aald_0, E_bald_0, E_cV_a, E_cV_b, E_c_0, E_getI_0, E_getR_0, E_inc_a, E_inc_b, E_jl_0, E_jmp_0, E_jz_0, E_kk, E_ldI_a, E_ldI_b, E_ldR_a, E_ldR_b, E_rR_0, E_stI_0, E_stR_0, aL_71, aL_91, am_cc, am_nl, am_ok, am_pop, am_rt, am_set, cC_0, cC_10, cC_6, cC_71, cC_91, rQ_91, rR_100, rR_102, rR_701, sN_91, kX0_leastLeftThatFits]
      have f01 : frm POX σ0 σ1 := f0.tr (f1.mo (fun f hf => PHX_O f (POX_X f hf)))
      have hx1 : DX σ1 (dOf σ0) := hx.fx f01 rfl rfl rfl rfl rfl rfl rfl
      refine c_wbh ok hk hx1 m1 (fun σ2 f2 => ?_)
      have f12 : frm PHX σ σ2 := (f1.mo PHX_O).tr (f2.mo PHX_W)
      have f02 : frm POX σ0 σ2 := f0.tr (f12.mo POX_X)
      have hk2 : i < gN σ2 10 := by rw [f02.gn]; exact hk
      have ed : gI σ2 1108 i = gI σ0 44 i := by rw [f02.gi rfl]; exact (h.2.1.2.2.2.2.1 i hk).1
      by_cases q : ¬ wst (dOf σ0) (hLf lv i) i = -1 ∧ ¬ gI σ0 44 i < wst (dOf σ0) (hLf lv i) i
      · have e1 : fitP σ0 (hLf lv i) i = true := decide_eq_true q
        rw [if_pos ⟨e, e1⟩] at hQ
        simp only [am_run_s, bt, lf, am_in, am_ar, am_fit, am_ld, am_ct, Nat.reduceLT, Nat.reduceEqDiff, reduceIte, Nat.reduceAdd, Nat.reduceLeDiff, Nat.reduceSub, Bool.false_eq_true, if_true, if_false, ite_true, ite_false, List.length_cons, List.length_nil, Nat.zero_add, Nat.add_zero, and_true, true_and, true_or, or_true, and_self, Nat.le_refl, Nat.lt_irrefl, gI_sI, gL_sL, gQ_sQ, gI_sJ, gI_sL, gI_sQ, gL_sI, gL_sQ, gL_sJ, gQ_sI, gQ_sL, gQ_sJ, gN_sI, gN_sL, gN_sQ, gN_sJ, E_aald_0, E_bald_0, E_cV_a, E_cV_b, E_c_0, E_getI_0, E_getR_0, E_inc_a, E_inc_b, E_jl_0, E_jmp_0, E_jz_0, E_kk, E_ldI_a, E_ldI_b, E_ldR_a, E_ldR_b, E_rR_0, E_stI_0, E_stR_0, aL_71, aL_91, am_cc, am_nl, am_ok, am_pop, am_rt, am_set, cC_0, cC_10, cC_6, cC_71, cC_91, rQ_91, rR_100, rR_102, rR_701, sN_91, kX0_leastLeftThatFits, hk2, cC_10, ↓s_fitsX i _ σ2 _ hk2, bI_z, ed, q, not_true_eq_false, not_false_eq_true]
        exact hQ σ2 f12
      · have e1 : ¬ fitP σ0 (hLf lv i) i = true := by unfold fitP; rw [decide_eq_false q]; decide
        rw [if_neg (fun z => e1 z.2)] at hQ
        simp only [am_run_s, bt, lf, am_in, am_ar, am_fit, am_ld, am_ct, Nat.reduceLT, Nat.reduceEqDiff, reduceIte, Nat.reduceAdd, Nat.reduceLeDiff, Nat.reduceSub, Bool.false_eq_true, if_true, if_false, ite_true, ite_false, List.length_cons, List.length_nil, Nat.zero_add, Nat.add_zero, and_true, true_and, true_or, or_true, and_self, Nat.le_refl, Nat.lt_irrefl, gI_sI, gL_sL, gQ_sQ, gI_sJ, gI_sL, gI_sQ, gL_sI, gL_sQ, gL_sJ, gQ_sI, gQ_sL, gQ_sJ, gN_sI, gN_sL, gN_sQ, gN_sJ, E_aald_0, E_bald_0, E_cV_a, E_cV_b, E_c_0, E_getI_0, E_getR_0, E_inc_a, E_inc_b, E_jl_0, E_jmp_0, E_jz_0, E_kk, E_ldI_a, E_ldI_b, E_ldR_a, E_ldR_b, E_rR_0, E_stI_0, E_stR_0, aL_71, aL_91, am_cc, am_nl, am_ok, am_pop, am_rt, am_set, cC_0, cC_10, cC_6, cC_71, cC_91, rQ_91, rR_100, rR_102, rR_701, sN_91, kX0_leastLeftThatFits, hk2, cC_10, ↓s_fitsX i _ σ2 _ hk2, bI_z, ed, q, not_false_eq_true, nI_1]
        exact ih (i + 1) σ2 _ (by omega) f02 (fun j hj => by rw [f12.gi rfl]; exact hl j hj) (fun σ' f3 => hQ σ' (f12.tr f3))
theorem c_llf {kk : Nat} {σ0 : HS} (h : Inv kk σ0) {lv : Nat → Bool} {Q : PO} {σ : HS} (f0 : frm POX σ0 σ) (hl : LFX σ lv (gN σ0 10)) (hQ : ∀ σ', frm PHX σ σ' → Q (some (.inr (.inr (oref (fnd σ0 lv (gN σ0 10) 0))))) σ') : MM 11 [.inr (.inr (some (0, 0)))] σ Q := by
  rw [eX0_leastLeftThatFits 4]
  simp only [am_run_s, bt, lf, am_in, am_ar, am_fit, am_ld, am_ct, Nat.reduceLT, Nat.reduceEqDiff, reduceIte, Nat.reduceAdd, Nat.reduceLeDiff, Nat.reduceSub, Bool.false_eq_true, if_true, if_false, ite_true, ite_false, List.length_cons, List.length_nil, Nat.zero_add, Nat.add_zero, and_true, true_and, true_or, or_true, and_self, Nat.le_refl, Nat.lt_irrefl, gI_sI, gL_sL, gQ_sQ, gI_sJ, gI_sL, gI_sQ, gL_sI, gL_sQ, gL_sJ, gQ_sI, gQ_sL, gQ_sJ, gN_sI, gN_sL, gN_sQ, gN_sJ, E_aald_0, E_bald_0, E_cV_a, E_cV_b, E_c_0, E_getI_0, E_getR_0, E_inc_a, E_inc_b, E_jl_0, E_jmp_0, E_jz_0, E_kk, E_ldI_a, E_ldI_b, E_ldR_a, E_ldR_b, E_rR_0, E_stI_0, E_stR_0, aL_71, aL_91, am_cc, am_nl, am_ok, am_pop, am_rt, am_set, cC_0, cC_10, cC_6, cC_71, cC_91, rQ_91, rR_100, rR_102, rR_701, sN_91, kX0_leastLeftThatFits]
  exact l_llf h (gN σ0 10) 0 σ _ (by omega) f0 hl hQ
theorem l_seek {kk : Nat} {σ0 : HS} (h : Inv kk σ0) {Q : PO} : ∀ (p : Nat) (σ : HS) (lv : Nat → Bool) (pl : Nat → Int32) (o : Option AV), p ≤ gN σ0 10 → frm POX σ0 σ → LFX σ lv (gN σ0 10) → (∀ j, p ≤ j → j < gN σ0 10 → gI σ 23 j = pl j) → gI σ 106 0 = 0 →
    (∀ σ', frm POX σ0 σ' → ordP σ0 (gN σ0 10) p lv pl = none → gI σ' 106 0 = 0 → Q (some (.inl 0)) σ') →
    (∀ σ' pl', frm POX σ0 σ' → ordP σ0 (gN σ0 10) p lv pl = some pl' → gI σ' 106 0 = 1 → (∀ j, j < gN σ0 10 → gI σ' 23 j = pl' j) → Q (some (.inl 1)) σ') →
    am_T (kX0_seekOrder S1) MM Q 41 [some (.inr (.inr (some (0, 0)))), some (.inl (nI p - 1)), o] [] σ 0 0 := by
  obtain ⟨hw1, hw2, h24⟩ := h.wc
  intro p
  induction p with
  | zero =>
    intro σ lv pl o hp f0 hl hpl ho hN hS
    rw [hX0_seekOrder 8]
    have h0 : nI 0 - 1 < 0 := by decide
    simp only [am_run_s, bt, lf, am_in, am_ar, am_fit, am_ld, am_ct, Nat.reduceLT, Nat.reduceEqDiff, reduceIte, Nat.reduceAdd, Nat.reduceLeDiff, Nat.reduceSub, Bool.false_eq_true, if_true, if_false, ite_true, ite_false, List.length_cons, List.length_nil, Nat.zero_add, Nat.add_zero, and_true, true_and, true_or, or_true, and_self, Nat.le_refl, Nat.lt_irrefl, gI_sI, gL_sL, gQ_sQ, gI_sJ, gI_sL, gI_sQ, gL_sI, gL_sQ, gL_sJ, gQ_sI, gQ_sL, gQ_sJ, gN_sI, gN_sL, gN_sQ, gN_sJ, E_b2_0, E_bast_0, E_cV_a, E_cV_b, E_c_0, E_getI_0, E_getR_0, E_iast_0, E_inc_a, E_inc_b, E_jl_0, E_jmp_0, E_jn_0, E_jnull_0, E_jnull_1, E_kk, E_ldI_a, E_ldI_b, E_ldR_a, E_ldR_b, E_putZ_0, E_rZ_0, E_stI_0, E_stR_0, aL_23, aL_71, am_cc, am_nl, am_ok, am_pop, am_rt, am_set, cC_0, cC_10, cC_23, cC_6, cC_71, rR_100, rR_102, rR_104, kX0_seekOrder, kX0_seekOrder_0, kX0_seekOrder_1, h0, am_b1]
    refine hS _ pl (f0.si rfl) rfl ?_ (fun j hj => ?_)
    · simp only [gI_sI, gL_sL, gQ_sQ, gI_sJ, gI_sL, gI_sQ, gL_sI, gL_sQ, gL_sJ, gQ_sI, gQ_sL, gQ_sJ, gN_sI, gN_sL, gN_sQ, gN_sJ, Nat.reduceLT, Nat.reduceEqDiff, reduceIte, Nat.reduceAdd, Nat.reduceLeDiff, Nat.reduceSub, Bool.false_eq_true, if_true, if_false, ite_true, ite_false, List.length_cons, List.length_nil, Nat.zero_add, Nat.add_zero, and_true, true_and, true_or, or_true, and_self, Nat.le_refl, Nat.lt_irrefl]
    · simp only [gI_sI, gL_sL, gQ_sQ, gI_sJ, gI_sL, gI_sQ, gL_sI, gL_sQ, gL_sJ, gQ_sI, gQ_sL, gQ_sJ, gN_sI, gN_sL, gN_sQ, gN_sJ, Nat.reduceLT, Nat.reduceEqDiff, reduceIte, Nat.reduceAdd, Nat.reduceLeDiff, Nat.reduceSub, Bool.false_eq_true, if_true, if_false, ite_true, ite_false, List.length_cons, List.length_nil, Nat.zero_add, Nat.add_zero, and_true, true_and, true_or, or_true, and_self, Nat.le_refl, Nat.lt_irrefl]; exact hpl j (Nat.zero_le _) hj
  | succ p ih =>
    intro σ lv pl o hp f0 hl hpl ho hN hS
    rw [hX0_seekOrder 24, nI_m1]
    have h0 := nI_f (j := p) (by omega)
    simp only [am_run_s, bt, lf, am_in, am_ar, am_fit, am_ld, am_ct, Nat.reduceLT, Nat.reduceEqDiff, reduceIte, Nat.reduceAdd, Nat.reduceLeDiff, Nat.reduceSub, Bool.false_eq_true, if_true, if_false, ite_true, ite_false, List.length_cons, List.length_nil, Nat.zero_add, Nat.add_zero, and_true, true_and, true_or, or_true, and_self, Nat.le_refl, Nat.lt_irrefl, gI_sI, gL_sL, gQ_sQ, gI_sJ, gI_sL, gI_sQ, gL_sI, gL_sQ, gL_sJ, gQ_sI, gQ_sL, gQ_sJ, gN_sI, gN_sL, gN_sQ, gN_sJ, E_b2_0, E_bast_0, E_cV_a, E_cV_b, E_c_0, E_getI_0, E_getR_0, E_iast_0, E_inc_a, E_inc_b, E_jl_0, E_jmp_0, E_jn_0, E_jnull_0, E_jnull_1, E_kk, E_ldI_a, E_ldI_b, E_ldR_a, E_ldR_b, E_putZ_0, E_rZ_0, E_stI_0, E_stR_0, aL_23, aL_71, am_cc, am_nl, am_ok, am_pop, am_rt, am_set, cC_0, cC_10, cC_23, cC_6, cC_71, rR_100, rR_102, rR_104, kX0_seekOrder, kX0_seekOrder_0, kX0_seekOrder_1, h0]
    refine c_llf h f0 hl (fun σ1 f1 => ?_)
    have f01 : frm POX σ0 σ1 := f0.tr (f1.mo POX_X)
    cases e : fnd σ0 lv (gN σ0 10) 0 with
    | none =>
      simp only [am_run_s, bt, lf, am_in, am_ar, am_fit, am_ld, am_ct, Nat.reduceLT, Nat.reduceEqDiff, reduceIte, Nat.reduceAdd, Nat.reduceLeDiff, Nat.reduceSub, Bool.false_eq_true, if_true, if_false, ite_true, ite_false, List.length_cons, List.length_nil, Nat.zero_add, Nat.add_zero, and_true, true_and, true_or, or_true, and_self, Nat.le_refl, Nat.lt_irrefl, gI_sI, gL_sL, gQ_sQ, gI_sJ, gI_sL, gI_sQ, gL_sI, gL_sQ, gL_sJ, gQ_sI, gQ_sL, gQ_sJ, gN_sI, gN_sL, gN_sQ, gN_sJ, E_b2_0, E_bast_0, E_cV_a, E_cV_b, E_c_0, E_getI_0, E_getR_0, E_iast_0, E_inc_a, E_inc_b, E_jl_0, E_jmp_0, E_jn_0, E_jnull_0, E_jnull_1, E_kk, E_ldI_a, E_ldI_b, E_ldR_a, E_ldR_b, E_putZ_0, E_rZ_0, E_stI_0, E_stR_0, aL_23, aL_71, am_cc, am_nl, am_ok, am_pop, am_rt, am_set, cC_0, cC_10, cC_23, cC_6, cC_71, rR_100, rR_102, rR_104, kX0_seekOrder, kX0_seekOrder_0, kX0_seekOrder_1, show oref none = none from rfl, am_b0]
      exact hN σ1 f01 (ordP_n e) (by rw [f1.gi rfl]; exact ho)
    | some w =>
      rw [ordP_s e] at hN hS
      obtain ⟨w1, w2⟩ := fnd_in e
      have hww : w < gN σ0 10 := by omega
      have c2 : gI σ1 1100 w = nI w := by rw [f01.gi rfl]; exact (h.2.1.1 w hww).2.1
      have c3 : w < gN σ1 10 := by rw [f01.gn]; exact hww
      have h3 : vp_in (nI p) 24 := vp_in_nI (by omega) (by omega)
      have h4 : (nI p).toNatClampNeg = p := nI_clamp (by omega)
      have h5 : vp_in (nI w) 24 := vp_in_nI (by omega) (by omega)
      have h6 : (nI w).toNatClampNeg = w := nI_clamp (by omega)
      have hm : nI p + -1 = nI p - 1 := by rw [Int32.sub_eq_add_neg]
      simp only [am_run_s, bt, lf, am_in, am_ar, am_fit, am_ld, am_ct, Nat.reduceLT, Nat.reduceEqDiff, reduceIte, Nat.reduceAdd, Nat.reduceLeDiff, Nat.reduceSub, Bool.false_eq_true, if_true, if_false, ite_true, ite_false, List.length_cons, List.length_nil, Nat.zero_add, Nat.add_zero, and_true, true_and, true_or, or_true, and_self, Nat.le_refl, Nat.lt_irrefl, gI_sI, gL_sL, gQ_sQ, gI_sJ, gI_sL, gI_sQ, gL_sI, gL_sQ, gL_sJ, gQ_sI, gQ_sL, gQ_sJ, gN_sI, gN_sL, gN_sQ, gN_sJ, E_b2_0, E_bast_0, E_cV_a, E_cV_b, E_c_0, E_getI_0, E_getR_0, E_iast_0, E_inc_a, E_inc_b, E_jl_0, E_jmp_0, E_jn_0, E_jnull_0, E_jnull_1, E_kk, E_ldI_a, E_ldI_b, E_ldR_a, E_ldR_b, E_putZ_0, E_rZ_0, E_stI_0, E_stR_0, aL_23, aL_71, am_cc, am_nl, am_ok, am_pop, am_rt, am_set, cC_0, cC_10, cC_23, cC_6, cC_71, rR_100, rR_102, rR_104, kX0_seekOrder, kX0_seekOrder_0, kX0_seekOrder_1, show oref (some w) = some (10, w) from rfl, c2, c3, h3, h4, h5, h6, cC_10, am_b0, hm]
      refine ih _ (hLf lv w) (fun j => if j = p then nI w else pl j) _ (by omega) ((f01.si rfl).si rfl) (fun j hj => ?_) (fun j h1 h2 => ?_) ?_ hN hS
      · simp only [gI_sI, gL_sL, gQ_sQ, gI_sJ, gI_sL, gI_sQ, gL_sI, gL_sQ, gL_sJ, gQ_sI, gQ_sL, gQ_sJ, gN_sI, gN_sL, gN_sQ, gN_sJ, Nat.reduceLT, Nat.reduceEqDiff, reduceIte, Nat.reduceAdd, Nat.reduceLeDiff, Nat.reduceSub, Bool.false_eq_true, if_true, if_false, ite_true, ite_false, List.length_cons, List.length_nil, Nat.zero_add, Nat.add_zero, and_true, true_and, true_or, or_true, and_self, Nat.le_refl, Nat.lt_irrefl]
        by_cases q : j = w
        · rw [if_pos q, q, hLf_self]; rfl
        · rw [if_neg q, f1.gi rfl, hl j hj]
          unfold hLf
          rw [decide_eq_true q, Bool.and_true]
      · simp only [gI_sI, gL_sL, gQ_sQ, gI_sJ, gI_sL, gI_sQ, gL_sI, gL_sQ, gL_sJ, gQ_sI, gQ_sL, gQ_sJ, gN_sI, gN_sL, gN_sQ, gN_sJ, Nat.reduceLT, Nat.reduceEqDiff, reduceIte, Nat.reduceAdd, Nat.reduceLeDiff, Nat.reduceSub, Bool.false_eq_true, if_true, if_false, ite_true, ite_false, List.length_cons, List.length_nil, Nat.zero_add, Nat.add_zero, and_true, true_and, true_or, or_true, and_self, Nat.le_refl, Nat.lt_irrefl]
        by_cases q : j = p
        · rw [if_pos q, if_pos q]
        · rw [if_neg q, if_neg q, f1.gi rfl]; exact hpl j (by omega) h2
      · simp only [gI_sI, gL_sL, gQ_sQ, gI_sJ, gI_sL, gI_sQ, gL_sI, gL_sQ, gL_sJ, gQ_sI, gQ_sL, gQ_sJ, gN_sI, gN_sL, gN_sQ, gN_sJ, Nat.reduceLT, Nat.reduceEqDiff, reduceIte, Nat.reduceAdd, Nat.reduceLeDiff, Nat.reduceSub, Bool.false_eq_true, if_true, if_false, ite_true, ite_false, List.length_cons, List.length_nil, Nat.zero_add, Nat.add_zero, and_true, true_and, true_or, or_true, and_self, Nat.le_refl, Nat.lt_irrefl]
        rw [f1.gi rfl]; exact ho
theorem l_seek0 {kk : Nat} {σ0 : HS} (h : Inv kk σ0) {Q : PO} : ∀ (r i : Nat) (σ : HS), i + r = gN σ0 10 → frm POX σ0 σ → (∀ j, j < i → gI σ 71 j = 1) → gI σ 106 0 = 0 →
    (∀ σ', frm POX σ0 σ' → LFX σ' (fun _ => true) (gN σ0 10) → gI σ' 106 0 = 0 → am_T (kX0_seekOrder S1) MM Q 41 [some (.inr (.inr (some (0, 0)))), some (.inl (nI (gN σ0 10) - 1)), none] [] σ' 0 0) →
    am_T (kX0_seekOrder S1) MM Q 7 [some (.inr (.inr (some (0, 0)))), some (.inl (nI i)), none] [] σ 0 0 := by
  obtain ⟨hw1, hw2, h24⟩ := h.wc
  intro r
  induction r with
  | zero =>
    intro i σ hi f0 hl ho hX
    have e : i = gN σ0 10 := by omega
    subst e
    rw [hX0_seekOrder 12]
    have h0 : ¬ nI (gN σ0 10) < nI (gN σ0 10) := nI_nlt (by omega) (by omega)
    have c1 : gI σ 703 0 = nI (gN σ0 10) := by rw [f0.gi rfl]; exact hw1
    simp only [am_run_s, bt, lf, am_in, am_ar, am_fit, am_ld, am_ct, Nat.reduceLT, Nat.reduceEqDiff, reduceIte, Nat.reduceAdd, Nat.reduceLeDiff, Nat.reduceSub, Bool.false_eq_true, if_true, if_false, ite_true, ite_false, List.length_cons, List.length_nil, Nat.zero_add, Nat.add_zero, and_true, true_and, true_or, or_true, and_self, Nat.le_refl, Nat.lt_irrefl, gI_sI, gL_sL, gQ_sQ, gI_sJ, gI_sL, gI_sQ, gL_sI, gL_sQ, gL_sJ, gQ_sI, gQ_sL, gQ_sJ, gN_sI, gN_sL, gN_sQ, gN_sJ, E_b2_0, E_bast_0, E_cV_a, E_cV_b, E_c_0, E_getI_0, E_getR_0, E_iast_0, E_inc_a, E_inc_b, E_jl_0, E_jmp_0, E_jn_0, E_jnull_0, E_jnull_1, E_kk, E_ldI_a, E_ldI_b, E_ldR_a, E_ldR_b, E_putZ_0, E_rZ_0, E_stI_0, E_stR_0, aL_23, aL_71, am_cc, am_nl, am_ok, am_pop, am_rt, am_set, cC_0, cC_10, cC_23, cC_6, cC_71, rR_100, rR_102, rR_104, kX0_seekOrder, kX0_seekOrder_0, kX0_seekOrder_1, c1, h0]
    exact hX σ f0 (fun j hj => hl j hj) ho
  | succ r ih =>
    intro i σ hi f0 hl ho hX
    have hk : i < gN σ0 10 := by omega
    have c1 : gI σ 703 0 = nI (gN σ0 10) := by rw [f0.gi rfl]; exact hw1
    have h2 := nI_t hk (by omega)
    have h3 : vp_in (nI i) 24 := vp_in_nI (by omega) (by omega)
    have h4 : (nI i).toNatClampNeg = i := nI_clamp (by omega)
    rw [hX0_seekOrder 13]
    simp only [am_run_s, bt, lf, am_in, am_ar, am_fit, am_ld, am_ct, Nat.reduceLT, Nat.reduceEqDiff, reduceIte, Nat.reduceAdd, Nat.reduceLeDiff, Nat.reduceSub, Bool.false_eq_true, if_true, if_false, ite_true, ite_false, List.length_cons, List.length_nil, Nat.zero_add, Nat.add_zero, and_true, true_and, true_or, or_true, and_self, Nat.le_refl, Nat.lt_irrefl, gI_sI, gL_sL, gQ_sQ, gI_sJ, gI_sL, gI_sQ, gL_sI, gL_sQ, gL_sJ, gQ_sI, gQ_sL, gQ_sJ, gN_sI, gN_sL, gN_sQ, gN_sJ, E_b2_0, E_bast_0, E_cV_a, E_cV_b, E_c_0, E_getI_0, E_getR_0, E_iast_0, E_inc_a, E_inc_b, E_jl_0, E_jmp_0, E_jn_0, E_jnull_0, E_jnull_1, E_kk, E_ldI_a, E_ldI_b, E_ldR_a, E_ldR_b, E_putZ_0, E_rZ_0, E_stI_0, E_stR_0, aL_23, aL_71, am_cc, am_nl, am_ok, am_pop, am_rt, am_set, cC_0, cC_10, cC_23, cC_6, cC_71, rR_100, rR_102, rR_104, kX0_seekOrder, kX0_seekOrder_0, kX0_seekOrder_1, c1, h2, h3, h4, am_b1, nI_1]
    refine ih (i + 1) _ (by omega) (f0.si rfl) (fun j hj => ?_) ?_ hX
    · simp only [gI_sI, gL_sL, gQ_sQ, gI_sJ, gI_sL, gI_sQ, gL_sI, gL_sQ, gL_sJ, gQ_sI, gQ_sL, gQ_sJ, gN_sI, gN_sL, gN_sQ, gN_sJ, Nat.reduceLT, Nat.reduceEqDiff, reduceIte, Nat.reduceAdd, Nat.reduceLeDiff, Nat.reduceSub, Bool.false_eq_true, if_true, if_false, ite_true, ite_false, List.length_cons, List.length_nil, Nat.zero_add, Nat.add_zero, and_true, true_and, true_or, or_true, and_self, Nat.le_refl, Nat.lt_irrefl]
      by_cases q : j = i
      · rw [if_pos q]
      · rw [if_neg q]; exact hl j (by omega)
    · simp only [gI_sI, gL_sL, gQ_sQ, gI_sJ, gI_sL, gI_sQ, gL_sI, gL_sQ, gL_sJ, gQ_sI, gQ_sL, gQ_sJ, gN_sI, gN_sL, gN_sQ, gN_sJ, Nat.reduceLT, Nat.reduceEqDiff, reduceIte, Nat.reduceAdd, Nat.reduceLeDiff, Nat.reduceSub, Bool.false_eq_true, if_true, if_false, ite_true, ite_false, List.length_cons, List.length_nil, Nat.zero_add, Nat.add_zero, and_true, true_and, true_or, or_true, and_self, Nat.le_refl, Nat.lt_irrefl]; exact ho
theorem c_seek {kk : Nat} {σ0 : HS} (h : Inv kk σ0) {Q : PO}
    (hN : ∀ σ', frm POX σ0 σ' → ordP σ0 (gN σ0 10) (gN σ0 10) (fun _ => true) (fun _ => 0) = none → gI σ' 106 0 = 0 → Q (some (.inl 0)) σ')
    (hS : ∀ σ' pl', frm POX σ0 σ' → ordP σ0 (gN σ0 10) (gN σ0 10) (fun _ => true) (fun _ => 0) = some pl' → gI σ' 106 0 = 1 → (∀ j, j < gN σ0 10 → gI σ' 23 j = pl' j) → Q (some (.inl 1)) σ') : MM 10 [.inr (.inr (some (0, 0)))] σ0 Q := by
  rw [eX0_seekOrder 6]
  simp only [am_run_s, bt, lf, am_in, am_ar, am_fit, am_ld, am_ct, Nat.reduceLT, Nat.reduceEqDiff, reduceIte, Nat.reduceAdd, Nat.reduceLeDiff, Nat.reduceSub, Bool.false_eq_true, if_true, if_false, ite_true, ite_false, List.length_cons, List.length_nil, Nat.zero_add, Nat.add_zero, and_true, true_and, true_or, or_true, and_self, Nat.le_refl, Nat.lt_irrefl, gI_sI, gL_sL, gQ_sQ, gI_sJ, gI_sL, gI_sQ, gL_sI, gL_sQ, gL_sJ, gQ_sI, gQ_sL, gQ_sJ, gN_sI, gN_sL, gN_sQ, gN_sJ, E_b2_0, E_bast_0, E_cV_a, E_cV_b, E_c_0, E_getI_0, E_getR_0, E_iast_0, E_inc_a, E_inc_b, E_jl_0, E_jmp_0, E_jn_0, E_jnull_0, E_jnull_1, E_kk, E_ldI_a, E_ldI_b, E_ldR_a, E_ldR_b, E_putZ_0, E_rZ_0, E_stI_0, E_stR_0, aL_23, aL_71, am_cc, am_nl, am_ok, am_pop, am_rt, am_set, cC_0, cC_10, cC_23, cC_6, cC_71, rR_100, rR_102, rR_104, kX0_seekOrder, kX0_seekOrder_0, kX0_seekOrder_1, am_b0]
  refine l_seek0 h (gN σ0 10) 0 _ (by omega) (frm.rf.si rfl) (fun _ z => absurd z (by omega)) (by simp only [gI_sI, gL_sL, gQ_sQ, gI_sJ, gI_sL, gI_sQ, gL_sI, gL_sQ, gL_sJ, gQ_sI, gQ_sL, gQ_sJ, gN_sI, gN_sL, gN_sQ, gN_sJ, Nat.reduceLT, Nat.reduceEqDiff, reduceIte, Nat.reduceAdd, Nat.reduceLeDiff, Nat.reduceSub, Bool.false_eq_true, if_true, if_false, ite_true, ite_false, List.length_cons, List.length_nil, Nat.zero_add, Nat.add_zero, and_true, true_and, true_or, or_true, and_self, Nat.le_refl, Nat.lt_irrefl]) (fun σ1 f1 l1 o1 => ?_)
  exact l_seek h (gN σ0 10) σ1 (fun _ => true) (fun _ => 0) _ (Nat.le_refl _) f1 l1 (fun j h1 h2 => absurd h2 (by omega)) o1 hN hS
