/-! ===== worst, misses: the calls ===== -/
theorem l_looksAt {kk : Nat} {wd : Nat} {Q : PO} : ∀ (r i : Nat) (σ : HS), Inv kk σ → wd < gN σ 10 → i + r = gN σ 10 → (∀ j, j < i → gI σ 73 j = bb (hR σ wd j)) → (∀ σ', frm PHM σ σ' → HM σ' (hR σ wd) (gN σ 10) → Q none σ') →
    am_T (kX12_looksAt S1) MM Q 2 [some (.inr (.inr (some (12, 0)))), some (.inl (nI wd)), some (.inl (nI i))] [] σ 0 0 := by
  intro r
  induction r with
  | zero =>
    intro i σ h hwd hi hH hQ
    obtain ⟨hw1, hw2, hw⟩ := h.wc
    have e : i = gN σ 10 := by omega
    subst e
    rw [hX12_looksAt 5]
    have h0 : ¬ nI (gN σ 10) < nI (gN σ 10) := nI_nlt (by omega) (by omega)
    simp only [am_run_s, bt, lf, am_in, am_ar, am_fit, am_ld, am_ct, Nat.reduceLT, Nat.reduceEqDiff, reduceIte, Nat.reduceAdd, Nat.reduceLeDiff, Nat.reduceSub, Bool.false_eq_true, if_true, if_false, ite_true, ite_false, List.length_cons, List.length_nil, Nat.zero_add, Nat.add_zero, and_true, true_and, true_or, or_true, and_self, Nat.le_refl, Nat.lt_irrefl, gI_sI, gL_sL, gQ_sQ, gI_sJ, gI_sL, gI_sQ, gL_sI, gL_sQ, gL_sJ, gQ_sI, gQ_sL, gQ_sJ, gN_sI, gN_sL, gN_sQ, gN_sJ, E_bast_0, E_cV_a, E_cV_b, E_c_0, E_getI_0, E_getR_0, E_inc_a, E_inc_b, E_je_0, E_jl_0, E_jmp_0, E_jz_0, E_kk, E_ldI_a, E_ldI_b, E_ldR_a, E_ldR_b, E_rV_0, E_stI_0, aL_73, am_cc, am_nl, am_ok, am_pop, am_rt, am_set, cC_12, cC_73, rR_1358, kX12_looksAt, hw2, h0]
    exact hQ σ frm.rf hH
  | succ r ih =>
    intro i σ h hwd hi hH hQ
    obtain ⟨hw1, hw2, hw⟩ := h.wc
    have hk : i < gN σ 10 := by omega
    have h2 := nI_t hk (by omega)
    have h3 : vp_in (nI i) 24 := vp_in_nI (by omega) (by omega)
    have h4 : (nI i).toNatClampNeg = i := nI_clamp (by omega)
    have f0 : frm PHM σ (sI σ 73 i (bb (hR σ wd i))) := frm.rf.si rfl
    have e1 := hR_m f0 wd
    have go : am_T (kX12_looksAt S1) MM Q 2 [some (.inr (.inr (some (12, 0)))), some (.inl (nI wd)), some (.inl (nI (i + 1)))] [] (sI σ 73 i (bb (hR σ wd i))) 0 0 := by
      refine ih (i + 1) _ (h.hm f0) (by rw [f0.gn]; exact hwd) (by rw [f0.gn]; omega) (fun j hj => ?_) (fun σ' f1 m1 => ?_)
      · rw [e1]
        simp only [gI_sI, gL_sL, gQ_sQ, gI_sJ, gI_sL, gI_sQ, gL_sI, gL_sQ, gL_sJ, gQ_sI, gQ_sL, gQ_sJ, gN_sI, gN_sL, gN_sQ, gN_sJ, Nat.reduceLT, Nat.reduceEqDiff, reduceIte, Nat.reduceAdd, Nat.reduceLeDiff, Nat.reduceSub, Bool.false_eq_true, if_true, if_false, ite_true, ite_false, List.length_cons, List.length_nil, Nat.zero_add, Nat.add_zero, and_true, true_and, true_or, or_true, and_self, Nat.le_refl, Nat.lt_irrefl]
        by_cases e : j = i
        · rw [if_pos e, e]
        · rw [if_neg e]; exact hH j (by omega)
      · rw [e1, f0.gn] at m1
        exact hQ σ' (f0.tr f1) m1
    rw [hX12_looksAt 20]
    by_cases z : i = wd
    · have z' : (nI i = nI wd) = True := eq_true (by rw [z])
      have e0 : bb (hR σ wd i) = 0 := by rw [z, hR_self]; rfl
      rw [e0] at go
      simp only [am_run_s, bt, lf, am_in, am_ar, am_fit, am_ld, am_ct, Nat.reduceLT, Nat.reduceEqDiff, reduceIte, Nat.reduceAdd, Nat.reduceLeDiff, Nat.reduceSub, Bool.false_eq_true, if_true, if_false, ite_true, ite_false, List.length_cons, List.length_nil, Nat.zero_add, Nat.add_zero, and_true, true_and, true_or, or_true, and_self, Nat.le_refl, Nat.lt_irrefl, gI_sI, gL_sL, gQ_sQ, gI_sJ, gI_sL, gI_sQ, gL_sI, gL_sQ, gL_sJ, gQ_sI, gQ_sL, gQ_sJ, gN_sI, gN_sL, gN_sQ, gN_sJ, E_bast_0, E_cV_a, E_cV_b, E_c_0, E_getI_0, E_getR_0, E_inc_a, E_inc_b, E_je_0, E_jl_0, E_jmp_0, E_jz_0, E_kk, E_ldI_a, E_ldI_b, E_ldR_a, E_ldR_b, E_rV_0, E_stI_0, aL_73, am_cc, am_nl, am_ok, am_pop, am_rt, am_set, cC_12, cC_73, rR_1358, kX12_looksAt, hw2, h2, h3, h4, z', am_b0, nI_1]
      exact go
    have z' : (nI i = nI wd) = False := eq_false (fun y => z ((nI_eq (by omega) (by omega)).mp y))
    by_cases q : kI (gI σ 38 i) < kI (gI σ 38 wd)
    · have e0 : bb (hR σ wd i) = 1 := by unfold hR; rw [decide_eq_true q]; rfl
      rw [e0] at go
      simp only [am_run_s, bt, lf, am_in, am_ar, am_fit, am_ld, am_ct, Nat.reduceLT, Nat.reduceEqDiff, reduceIte, Nat.reduceAdd, Nat.reduceLeDiff, Nat.reduceSub, Bool.false_eq_true, if_true, if_false, ite_true, ite_false, List.length_cons, List.length_nil, Nat.zero_add, Nat.add_zero, and_true, true_and, true_or, or_true, and_self, Nat.le_refl, Nat.lt_irrefl, gI_sI, gL_sL, gQ_sQ, gI_sJ, gI_sL, gI_sQ, gL_sI, gL_sQ, gL_sJ, gQ_sI, gQ_sL, gQ_sJ, gN_sI, gN_sL, gN_sQ, gN_sJ, E_bast_0, E_cV_a, E_cV_b, E_c_0, E_getI_0, E_getR_0, E_inc_a, E_inc_b, E_je_0, E_jl_0, E_jmp_0, E_jz_0, E_kk, E_ldI_a, E_ldI_b, E_ldR_a, E_ldR_b, E_rV_0, E_stI_0, aL_73, am_cc, am_nl, am_ok, am_pop, am_rt, am_set, cC_12, cC_73, rR_1358, kX12_looksAt, hw2, h2, h3, h4, z', ↓s_isAhead i wd (show i < 24 by omega) (show wd < 24 by omega), bI_z, q, am_b1, not_true_eq_false, nI_1]
      exact go
    · have e0 : bb (hR σ wd i) = 0 := by unfold hR; rw [decide_eq_false q]; rfl
      rw [e0] at go
      simp only [am_run_s, bt, lf, am_in, am_ar, am_fit, am_ld, am_ct, Nat.reduceLT, Nat.reduceEqDiff, reduceIte, Nat.reduceAdd, Nat.reduceLeDiff, Nat.reduceSub, Bool.false_eq_true, if_true, if_false, ite_true, ite_false, List.length_cons, List.length_nil, Nat.zero_add, Nat.add_zero, and_true, true_and, true_or, or_true, and_self, Nat.le_refl, Nat.lt_irrefl, gI_sI, gL_sL, gQ_sQ, gI_sJ, gI_sL, gI_sQ, gL_sI, gL_sQ, gL_sJ, gQ_sI, gQ_sL, gQ_sJ, gN_sI, gN_sL, gN_sQ, gN_sJ, E_bast_0, E_cV_a, E_cV_b, E_c_0, E_getI_0, E_getR_0, E_inc_a, E_inc_b, E_je_0, E_jl_0, E_jmp_0, E_jz_0, E_kk, E_ldI_a, E_ldI_b, E_ldR_a, E_ldR_b, E_rV_0, E_stI_0, aL_73, am_cc, am_nl, am_ok, am_pop, am_rt, am_set, cC_12, cC_73, rR_1358, kX12_looksAt, hw2, h2, h3, h4, z', ↓s_isAhead i wd (show i < 24 by omega) (show wd < 24 by omega), bI_z, q, am_b0, not_false_eq_true, nI_1]
      exact go
theorem c_looksAt {kk : Nat} {wd : Nat} {Q : PO} {σ : HS} (h : Inv kk σ) (hwd : wd < gN σ 10) (hQ : ∀ σ', frm PHM σ σ' → HM σ' (hR σ wd) (gN σ 10) → Q none σ') : MM 200 [.inr (.inr (some (12, 0))), .inl (nI wd)] σ Q := by
  rw [eX12_looksAt 4]
  simp only [am_run_s, bt, lf, am_in, am_ar, am_fit, am_ld, am_ct, Nat.reduceLT, Nat.reduceEqDiff, reduceIte, Nat.reduceAdd, Nat.reduceLeDiff, Nat.reduceSub, Bool.false_eq_true, if_true, if_false, ite_true, ite_false, List.length_cons, List.length_nil, Nat.zero_add, Nat.add_zero, and_true, true_and, true_or, or_true, and_self, Nat.le_refl, Nat.lt_irrefl, gI_sI, gL_sL, gQ_sQ, gI_sJ, gI_sL, gI_sQ, gL_sI, gL_sQ, gL_sJ, gQ_sI, gQ_sL, gQ_sJ, gN_sI, gN_sL, gN_sQ, gN_sJ, E_bast_0, E_cV_a, E_cV_b, E_c_0, E_getI_0, E_getR_0, E_inc_a, E_inc_b, E_je_0, E_jl_0, E_jmp_0, E_jz_0, E_kk, E_ldI_a, E_ldI_b, E_ldR_a, E_ldR_b, E_rV_0, E_stI_0, aL_73, am_cc, am_nl, am_ok, am_pop, am_rt, am_set, cC_12, cC_73, rR_1358, kX12_looksAt]
  exact l_looksAt (gN σ 10) 0 σ h hwd (by omega) (fun _ z => absurd z (by omega)) hQ
theorem api_worst (x : Int32) : apiI 116 202 [.inl x] := by
  intro k σ hk h
  obtain ⟨hw1, hw2, hw⟩ := h.wc
  rw [eX11_worst 20]
  rcases ix x (n := gN σ 10) (by omega) with ⟨j, hj, rfl⟩ | hx
  · have h1 := nI_f (j := j) (by omega)
    have h2 := nI_t hj (by omega)
    have h3 : vp_in (nI j) 24 := vp_in_nI (by omega) (by omega)
    have h4 : (nI j).toNatClampNeg = j := nI_clamp (by omega)
    have hq := (h.2.1.1 j hj)
    simp only [am_run_s, bt, lf, am_in, am_ar, am_fit, am_ld, am_ct, Nat.reduceLT, Nat.reduceEqDiff, reduceIte, Nat.reduceAdd, Nat.reduceLeDiff, Nat.reduceSub, Bool.false_eq_true, if_true, if_false, ite_true, ite_false, List.length_cons, List.length_nil, Nat.zero_add, Nat.add_zero, and_true, true_and, true_or, or_true, and_self, Nat.le_refl, Nat.lt_irrefl, gI_sI, gL_sL, gQ_sQ, gI_sJ, gI_sL, gI_sQ, gL_sI, gL_sQ, gL_sJ, gQ_sI, gQ_sL, gQ_sJ, gN_sI, gN_sL, gN_sQ, gN_sJ, E_aald_0, E_cV_a, E_cV_b, E_c_0, E_getR_0, E_jz_0, E_kk, E_ldI_a, E_ldI_b, E_ldR_a, E_ldR_b, E_rI_0, aL_91, am_cc, am_pop, am_rt, cC_0, cC_11, cC_6, cC_91, rQ_91, rR_1200, rR_1205, rR_701, sN_91, kX11_worst, ↓s_hasWord, bI_z, hw1, h1, h2, h3, h4, hq.1, not_true_eq_false, not_false_eq_true]
    refine c_wbr h hj (fun σ1 f1 => ?_)
    simp only [am_run_s, bt, lf, am_in, am_ar, am_fit, am_ld, am_ct, Nat.reduceLT, Nat.reduceEqDiff, reduceIte, Nat.reduceAdd, Nat.reduceLeDiff, Nat.reduceSub, Bool.false_eq_true, if_true, if_false, ite_true, ite_false, List.length_cons, List.length_nil, Nat.zero_add, Nat.add_zero, and_true, true_and, true_or, or_true, and_self, Nat.le_refl, Nat.lt_irrefl, gI_sI, gL_sL, gQ_sQ, gI_sJ, gI_sL, gI_sQ, gL_sI, gL_sQ, gL_sJ, gQ_sI, gQ_sL, gQ_sJ, gN_sI, gN_sL, gN_sQ, gN_sJ, E_aald_0, E_cV_a, E_cV_b, E_c_0, E_getR_0, E_jz_0, E_kk, E_ldI_a, E_ldI_b, E_ldR_a, E_ldR_b, E_rI_0, aL_91, am_cc, am_pop, am_rt, cC_0, cC_11, cC_6, cC_91, rQ_91, rR_1200, rR_1205, rR_701, sN_91, kX11_worst]
    have g := h.hx f1
    obtain ⟨-, hv2, -⟩ := g.wc
    have hg : gN σ1 10 = gN σ 10 := f1.gn 10
    rw [eX12_worst 16]
    simp only [am_run_s, bt, lf, am_in, am_ar, am_fit, am_ld, am_ct, Nat.reduceLT, Nat.reduceEqDiff, reduceIte, Nat.reduceAdd, Nat.reduceLeDiff, Nat.reduceSub, Bool.false_eq_true, if_true, if_false, ite_true, ite_false, List.length_cons, List.length_nil, Nat.zero_add, Nat.add_zero, and_true, true_and, true_or, or_true, and_self, Nat.le_refl, Nat.lt_irrefl, gI_sI, gL_sL, gQ_sQ, gI_sJ, gI_sL, gI_sQ, gL_sI, gL_sQ, gL_sJ, gQ_sI, gQ_sL, gQ_sJ, gN_sI, gN_sL, gN_sQ, gN_sJ, E_cV_a, E_cV_b, E_c_0, E_jz_0, E_kk, E_ldI_a, E_ldI_b, E_ldR_a, E_ldR_b, E_rI_0, am_cc, am_pop, am_rt, cC_12, kX12_worst, ↓s_isWord, bI_z, hv2, hg, h1, h2, not_true_eq_false, not_false_eq_true]
    refine c_looksAt g (by omega) (fun σ2 f2 m2 => ?_)
    simp only [am_run_s, bt, lf, am_in, am_ar, am_fit, am_ld, am_ct, Nat.reduceLT, Nat.reduceEqDiff, reduceIte, Nat.reduceAdd, Nat.reduceLeDiff, Nat.reduceSub, Bool.false_eq_true, if_true, if_false, ite_true, ite_false, List.length_cons, List.length_nil, Nat.zero_add, Nat.add_zero, and_true, true_and, true_or, or_true, and_self, Nat.le_refl, Nat.lt_irrefl, gI_sI, gL_sL, gQ_sQ, gI_sJ, gI_sL, gI_sQ, gL_sI, gL_sQ, gL_sJ, gQ_sI, gQ_sL, gQ_sJ, gN_sI, gN_sL, gN_sQ, gN_sJ, E_cV_a, E_cV_b, E_c_0, E_jz_0, E_kk, E_ldI_a, E_ldI_b, E_ldR_a, E_ldR_b, E_rI_0, am_cc, am_pop, am_rt, cC_12, kX12_worst]
    have g2 := g.hm f2
    obtain ⟨ok, -, hm⟩ := g2.dd
    have ed : dOf σ2 = dOf σ := by rw [dOf_m f2, dOf_x f1]
    rw [ed] at ok hm
    rw [hR_x f1, hg] at m2
    refine c_worstOf hm ok m2 hj (hR_self σ j) ?_
    simp only [am_run_s, bt, lf, am_in, am_ar, am_fit, am_ld, am_ct, Nat.reduceLT, Nat.reduceEqDiff, reduceIte, Nat.reduceAdd, Nat.reduceLeDiff, Nat.reduceSub, Bool.false_eq_true, if_true, if_false, ite_true, ite_false, List.length_cons, List.length_nil, Nat.zero_add, Nat.add_zero, and_true, true_and, true_or, or_true, and_self, Nat.le_refl, Nat.lt_irrefl, gI_sI, gL_sL, gQ_sQ, gI_sJ, gI_sL, gI_sQ, gL_sI, gL_sQ, gL_sJ, gQ_sI, gQ_sL, gQ_sJ, gN_sI, gN_sL, gN_sQ, gN_sJ, E_cV_a, E_cV_b, E_c_0, E_jz_0, E_kk, E_ldI_a, E_ldI_b, E_ldR_a, E_ldR_b, E_rI_0, am_cc, am_pop, am_rt, cC_12, kX12_worst]
    exact ⟨⟨_, rfl, rfl⟩, g2.up⟩
  · simp only [am_run_s, bt, lf, am_in, am_ar, am_fit, am_ld, am_ct, Nat.reduceLT, Nat.reduceEqDiff, reduceIte, Nat.reduceAdd, Nat.reduceLeDiff, Nat.reduceSub, Bool.false_eq_true, if_true, if_false, ite_true, ite_false, List.length_cons, List.length_nil, Nat.zero_add, Nat.add_zero, and_true, true_and, true_or, or_true, and_self, Nat.le_refl, Nat.lt_irrefl, gI_sI, gL_sL, gQ_sQ, gI_sJ, gI_sL, gI_sQ, gL_sI, gL_sQ, gL_sJ, gQ_sI, gQ_sL, gQ_sJ, gN_sI, gN_sL, gN_sQ, gN_sJ, E_aald_0, E_cV_a, E_cV_b, E_c_0, E_getR_0, E_jz_0, E_kk, E_ldI_a, E_ldI_b, E_ldR_a, E_ldR_b, E_rI_0, aL_91, am_cc, am_pop, am_rt, cC_0, cC_11, cC_6, cC_91, rQ_91, rR_1200, rR_1205, rR_701, sN_91, kX11_worst, ↓s_hasWord, bI_z, hw1, hx, not_false_eq_true, ↓s_refuse3]
    rw [eX12_worst 12]
    simp only [am_run_s, bt, lf, am_in, am_ar, am_fit, am_ld, am_ct, Nat.reduceLT, Nat.reduceEqDiff, reduceIte, Nat.reduceAdd, Nat.reduceLeDiff, Nat.reduceSub, Bool.false_eq_true, if_true, if_false, ite_true, ite_false, List.length_cons, List.length_nil, Nat.zero_add, Nat.add_zero, and_true, true_and, true_or, or_true, and_self, Nat.le_refl, Nat.lt_irrefl, gI_sI, gL_sL, gQ_sQ, gI_sJ, gI_sL, gI_sQ, gL_sI, gL_sQ, gL_sJ, gQ_sI, gQ_sL, gQ_sJ, gN_sI, gN_sL, gN_sQ, gN_sJ, E_cV_a, E_cV_b, E_c_0, E_jz_0, E_kk, E_ldI_a, E_ldI_b, E_ldR_a, E_ldR_b, E_rI_0, am_cc, am_pop, am_rt, cC_12, kX12_worst, ↓s_isWord, bI_z, hw2, gN_sI, gI_sI, Nat.reduceEqDiff, reduceIte, hx, not_false_eq_true, ↓s_no3]
    exact ⟨⟨_, rfl, rfl⟩, h.refuse⟩
theorem s_fitsX (i : Nat) (v : Int32) (σ : HS) (Q : PO) (h : i < gN σ 10) : MM 86 [.inr (.inr (some (10, i))), .inl v] σ Q ↔ Q (some (.inl (bI (¬ v = -1 ∧ ¬ gI σ 1108 i < v) inferInstance))) σ := by
  rw [eX10_fits 12]
  simp only [am_run_s, bt, lf, am_in, am_ar, am_fit, am_ld, am_ct, Nat.reduceLT, Nat.reduceEqDiff, reduceIte, Nat.reduceAdd, Nat.reduceLeDiff, Nat.reduceSub, Bool.false_eq_true, if_true, if_false, ite_true, ite_false, List.length_cons, List.length_nil, Nat.zero_add, Nat.add_zero, and_true, true_and, true_or, or_true, and_self, Nat.le_refl, Nat.lt_irrefl, gI_sI, gL_sL, gQ_sQ, gI_sJ, gI_sL, gI_sQ, gL_sI, gL_sQ, gL_sJ, gQ_sI, gQ_sL, gQ_sJ, gN_sI, gN_sL, gN_sQ, gN_sJ, E_c_0, E_getI_0, E_je_0, E_jg_0, E_jmp_0, E_ldI_a, E_ldI_b, E_ldR_a, E_ldR_b, E_rZ_0, cC_10, kX10_fits, am_b0, am_b1, h]
  by_cases h1 : v = -1 <;> by_cases h2 : gI σ 1108 i < v <;> simp [bI, h1, h2]
/-- whether it fits -/
noncomputable def fitP (σ : HS) (H : Nat → Bool) (wd : Nat) : Bool := decide (¬ wst (dOf σ) H wd = -1 ∧ ¬ gI σ 44 wd < wst (dOf σ) H wd)
theorem c_fitsM {σ : HS} {kk : Nat} (h : Inv kk σ) {H : Nat → Bool} (hH : HM σ H (gN σ 10)) {wd : Nat} (hw : wd < gN σ 10) (h0 : H wd = false) {Q : PO} (hQ : Q (some (.inl (bb (fitP σ H wd)))) σ) : MM 201 [.inr (.inr (some (12, 0))), .inl (nI wd)] σ Q := by
  obtain ⟨ok, -, hm⟩ := h.dd
  obtain ⟨-, -, hw24⟩ := h.wc
  have h3 : vp_in (nI wd) 24 := vp_in_nI (by omega) (by omega)
  have h4 : (nI wd).toNatClampNeg = wd := nI_clamp (by omega)
  rw [eX12_fits 18]
  simp only [am_run_s, bt, lf, am_in, am_ar, am_fit, am_ld, am_ct, Nat.reduceLT, Nat.reduceEqDiff, reduceIte, Nat.reduceAdd, Nat.reduceLeDiff, Nat.reduceSub, Bool.false_eq_true, if_true, if_false, ite_true, ite_false, List.length_cons, List.length_nil, Nat.zero_add, Nat.add_zero, and_true, true_and, true_or, or_true, and_self, Nat.le_refl, Nat.lt_irrefl, gI_sI, gL_sL, gQ_sQ, gI_sJ, gI_sL, gI_sQ, gL_sI, gL_sQ, gL_sJ, gQ_sI, gQ_sL, gQ_sJ, gN_sI, gN_sL, gN_sQ, gN_sJ, E_cV_a, E_cV_b, E_c_0, E_getR_0, E_iald_0, E_jg_0, E_jmp_0, E_jn_0, E_kk, E_ldI_a, E_ldI_b, E_ldR_a, E_ldR_b, E_rZ_0, E_stI_0, aL_44, am_cc, am_nl, am_ok, am_pop, am_rt, am_set, cC_12, cC_44, rR_1311, kX12_fits]
  refine c_worstOf hm ok hH hw h0 ?_
  unfold fitP at hQ
  rcases wst_nn (dOf σ) H wd with e | e
  · rw [decide_eq_false (fun z => z.1 e)] at hQ
    rw [e]
    have n1 : ((-1 : Int32) < 0) = True := by decide
    simp only [am_run_s, bt, lf, am_in, am_ar, am_fit, am_ld, am_ct, Nat.reduceLT, Nat.reduceEqDiff, reduceIte, Nat.reduceAdd, Nat.reduceLeDiff, Nat.reduceSub, Bool.false_eq_true, if_true, if_false, ite_true, ite_false, List.length_cons, List.length_nil, Nat.zero_add, Nat.add_zero, and_true, true_and, true_or, or_true, and_self, Nat.le_refl, Nat.lt_irrefl, gI_sI, gL_sL, gQ_sQ, gI_sJ, gI_sL, gI_sQ, gL_sI, gL_sQ, gL_sJ, gQ_sI, gQ_sL, gQ_sJ, gN_sI, gN_sL, gN_sQ, gN_sJ, E_cV_a, E_cV_b, E_c_0, E_getR_0, E_iald_0, E_jg_0, E_jmp_0, E_jn_0, E_kk, E_ldI_a, E_ldI_b, E_ldR_a, E_ldR_b, E_rZ_0, E_stI_0, aL_44, am_cc, am_nl, am_ok, am_pop, am_rt, am_set, cC_12, cC_44, rR_1311, kX12_fits, n1, am_b0]
    exact hQ
  · have ne : ¬ wst (dOf σ) H wd = -1 := by
      intro z
      rw [z] at e
      exact e (by decide)
    by_cases q : gI σ 44 wd < wst (dOf σ) H wd
    · rw [decide_eq_false (fun z => z.2 q)] at hQ
      simp only [am_run_s, bt, lf, am_in, am_ar, am_fit, am_ld, am_ct, Nat.reduceLT, Nat.reduceEqDiff, reduceIte, Nat.reduceAdd, Nat.reduceLeDiff, Nat.reduceSub, Bool.false_eq_true, if_true, if_false, ite_true, ite_false, List.length_cons, List.length_nil, Nat.zero_add, Nat.add_zero, and_true, true_and, true_or, or_true, and_self, Nat.le_refl, Nat.lt_irrefl, gI_sI, gL_sL, gQ_sQ, gI_sJ, gI_sL, gI_sQ, gL_sI, gL_sQ, gL_sJ, gQ_sI, gQ_sL, gQ_sJ, gN_sI, gN_sL, gN_sQ, gN_sJ, E_cV_a, E_cV_b, E_c_0, E_getR_0, E_iald_0, E_jg_0, E_jmp_0, E_jn_0, E_kk, E_ldI_a, E_ldI_b, E_ldR_a, E_ldR_b, E_rZ_0, E_stI_0, aL_44, am_cc, am_nl, am_ok, am_pop, am_rt, am_set, cC_12, cC_44, rR_1311, kX12_fits, e, h3, h4, q, am_b0]
      exact hQ
    · rw [decide_eq_true ⟨ne, q⟩] at hQ
      simp only [am_run_s, bt, lf, am_in, am_ar, am_fit, am_ld, am_ct, Nat.reduceLT, Nat.reduceEqDiff, reduceIte, Nat.reduceAdd, Nat.reduceLeDiff, Nat.reduceSub, Bool.false_eq_true, if_true, if_false, ite_true, ite_false, List.length_cons, List.length_nil, Nat.zero_add, Nat.add_zero, and_true, true_and, true_or, or_true, and_self, Nat.le_refl, Nat.lt_irrefl, gI_sI, gL_sL, gQ_sQ, gI_sJ, gI_sL, gI_sQ, gL_sI, gL_sQ, gL_sJ, gQ_sI, gQ_sL, gQ_sJ, gN_sI, gN_sL, gN_sQ, gN_sJ, E_cV_a, E_cV_b, E_c_0, E_getR_0, E_iald_0, E_jg_0, E_jmp_0, E_jn_0, E_kk, E_ldI_a, E_ldI_b, E_ldR_a, E_ldR_b, E_rZ_0, E_stI_0, aL_44, am_cc, am_nl, am_ok, am_pop, am_rt, am_set, cC_12, cC_44, rR_1311, kX12_fits, e, h3, h4, q, am_b1]
      exact hQ
noncomputable def misN (σ : HS) : Nat → Nat
  | 0 => 0
  | n + 1 => misN σ n + if fitP σ (hR σ n) n = true then 0 else 1
theorem misN_s (σ : HS) (n : Nat) : misN σ (n + 1) = misN σ n + if fitP σ (hR σ n) n = true then 0 else 1 := rfl
theorem misN_x {σ σ' : HS} (f : frm PHX σ σ') : ∀ n, misN σ' n = misN σ n
  | 0 => rfl
  | n + 1 => by
    have e : fitP σ' (hR σ' n) n = fitP σ (hR σ n) n := by
      unfold fitP
      rw [dOf_x f, hR_x f, f.gi rfl]
    rw [misN_s, misN_s, misN_x f n, e]
theorem misN_m {σ σ' : HS} (f : frm PHM σ σ') : ∀ n, misN σ' n = misN σ n
  | 0 => rfl
  | n + 1 => by
    have e : fitP σ' (hR σ' n) n = fitP σ (hR σ n) n := by
      unfold fitP
      rw [dOf_m f, hR_m f, f.gi rfl]
    rw [misN_s, misN_s, misN_m f n, e]
theorem l_missX {kk : Nat} {Q : PO} : ∀ (r i : Nat) (σ : HS) (o : Option AV), Inv kk σ → i + r = gN σ 10 → (∀ σ', frm PHX σ σ' → Q (some (.inl (nI (misN σ (gN σ 10))))) σ') →
    am_T (kX11_misses S1) MM Q 4 [some (.inr (.inr (some (11, 0)))), some (.inl (nI (misN σ i))), some (.inl (nI i)), o] [] σ 0 0 := by
  intro r
  induction r with
  | zero =>
    intro i σ o h hi hQ
    obtain ⟨hw1, hw2, hw⟩ := h.wc
    have e : i = gN σ 10 := by omega
    subst e
    rw [hX11_misses 7]
    have h0 : ¬ nI (gN σ 10) < nI (gN σ 10) := nI_nlt (by omega) (by omega)
    simp only [am_run_s, bt, lf, am_in, am_ar, am_fit, am_ld, am_ct, Nat.reduceLT, Nat.reduceEqDiff, reduceIte, Nat.reduceAdd, Nat.reduceLeDiff, Nat.reduceSub, Bool.false_eq_true, if_true, if_false, ite_true, ite_false, List.length_cons, List.length_nil, Nat.zero_add, Nat.add_zero, and_true, true_and, true_or, or_true, and_self, Nat.le_refl, Nat.lt_irrefl, gI_sI, gL_sL, gQ_sQ, gI_sJ, gI_sL, gI_sQ, gL_sI, gL_sQ, gL_sJ, gQ_sI, gQ_sL, gQ_sJ, gN_sI, gN_sL, gN_sQ, gN_sJ, E_aald_0, E_cV_a, E_cV_b, E_c_0, E_getI_0, E_getR_0, E_inc_a, E_inc_b, E_jl_0, E_jmp_0, E_jz_0, E_kk, E_ldI_a, E_ldI_b, E_ldR_a, E_ldR_b, E_rI_0, E_stI_0, E_stR_0, aL_91, am_cc, am_nl, am_ok, am_pop, am_rt, am_set, cC_0, cC_10, cC_11, cC_6, cC_91, rQ_91, rR_1200, rR_1205, rR_701, sN_91, kX11_misses, hw1, h0]
    exact hQ σ frm.rf
  | succ r ih =>
    intro i σ o h hi hQ
    obtain ⟨hw1, hw2, hw⟩ := h.wc
    have hk : i < gN σ 10 := by omega
    have h2 := nI_t hk (by omega)
    have h3 : vp_in (nI i) 24 := vp_in_nI (by omega) (by omega)
    have h4 : (nI i).toNatClampNeg = i := nI_clamp (by omega)
    have hq := (h.2.1.1 i hk).1
    rw [hX11_misses 20]
    simp only [am_run_s, bt, lf, am_in, am_ar, am_fit, am_ld, am_ct, Nat.reduceLT, Nat.reduceEqDiff, reduceIte, Nat.reduceAdd, Nat.reduceLeDiff, Nat.reduceSub, Bool.false_eq_true, if_true, if_false, ite_true, ite_false, List.length_cons, List.length_nil, Nat.zero_add, Nat.add_zero, and_true, true_and, true_or, or_true, and_self, Nat.le_refl, Nat.lt_irrefl, gI_sI, gL_sL, gQ_sQ, gI_sJ, gI_sL, gI_sQ, gL_sI, gL_sQ, gL_sJ, gQ_sI, gQ_sL, gQ_sJ, gN_sI, gN_sL, gN_sQ, gN_sJ, E_aald_0, E_cV_a, E_cV_b, E_c_0, E_getI_0, E_getR_0, E_inc_a, E_inc_b, E_jl_0, E_jmp_0, E_jz_0, E_kk, E_ldI_a, E_ldI_b, E_ldR_a, E_ldR_b, E_rI_0, E_stI_0, E_stR_0, aL_91, am_cc, am_nl, am_ok, am_pop, am_rt, am_set, cC_0, cC_10, cC_11, cC_6, cC_91, rQ_91, rR_1200, rR_1205, rR_701, sN_91, kX11_misses, hw1, h2, h3, h4, hq]
    refine c_wbr h hk (fun σ1 f1 => ?_)
    have g := h.hx f1
    have hg : gN σ1 10 = gN σ 10 := f1.gn 10
    have hk1 : i < gN σ1 10 := by omega
    have ed : gI σ1 1108 i = gI σ 44 i := by rw [f1.gi rfl]; exact (h.2.1.2.2.2.2.1 i hk).1
    have go := fun o => ih (i + 1) σ1 o g (by omega) (fun σ' f2 => by rw [misN_x f1, hg]; exact hQ σ' (f1.tr f2))
    rw [misN_x f1, misN_s] at go
    by_cases q : ¬ wst (dOf σ) (hR σ i) i = -1 ∧ ¬ gI σ 44 i < wst (dOf σ) (hR σ i) i
    · have e : fitP σ (hR σ i) i = true := decide_eq_true q
      rw [if_pos e, Nat.add_zero] at go
      simp only [am_run_s, bt, lf, am_in, am_ar, am_fit, am_ld, am_ct, Nat.reduceLT, Nat.reduceEqDiff, reduceIte, Nat.reduceAdd, Nat.reduceLeDiff, Nat.reduceSub, Bool.false_eq_true, if_true, if_false, ite_true, ite_false, List.length_cons, List.length_nil, Nat.zero_add, Nat.add_zero, and_true, true_and, true_or, or_true, and_self, Nat.le_refl, Nat.lt_irrefl, gI_sI, gL_sL, gQ_sQ, gI_sJ, gI_sL, gI_sQ, gL_sI, gL_sQ, gL_sJ, gQ_sI, gQ_sL, gQ_sJ, gN_sI, gN_sL, gN_sQ, gN_sJ, E_aald_0, E_cV_a, E_cV_b, E_c_0, E_getI_0, E_getR_0, E_inc_a, E_inc_b, E_jl_0, E_jmp_0, E_jz_0, E_kk, E_ldI_a, E_ldI_b, E_ldR_a, E_ldR_b, E_rI_0, E_stI_0, E_stR_0, aL_91, am_cc, am_nl, am_ok, am_pop, am_rt, am_set, cC_0, cC_10, cC_11, cC_6, cC_91, rQ_91, rR_1200, rR_1205, rR_701, sN_91, kX11_misses, hk1, cC_10, ↓s_fitsX i _ σ1 _ hk1, bI_z, ed, q, not_true_eq_false, not_false_eq_true, nI_1]
      exact go _
    · have e : ¬ fitP σ (hR σ i) i = true := by unfold fitP; rw [decide_eq_false q]; decide
      rw [if_neg e] at go
      simp only [am_run_s, bt, lf, am_in, am_ar, am_fit, am_ld, am_ct, Nat.reduceLT, Nat.reduceEqDiff, reduceIte, Nat.reduceAdd, Nat.reduceLeDiff, Nat.reduceSub, Bool.false_eq_true, if_true, if_false, ite_true, ite_false, List.length_cons, List.length_nil, Nat.zero_add, Nat.add_zero, and_true, true_and, true_or, or_true, and_self, Nat.le_refl, Nat.lt_irrefl, gI_sI, gL_sL, gQ_sQ, gI_sJ, gI_sL, gI_sQ, gL_sI, gL_sQ, gL_sJ, gQ_sI, gQ_sL, gQ_sJ, gN_sI, gN_sL, gN_sQ, gN_sJ, E_aald_0, E_cV_a, E_cV_b, E_c_0, E_getI_0, E_getR_0, E_inc_a, E_inc_b, E_jl_0, E_jmp_0, E_jz_0, E_kk, E_ldI_a, E_ldI_b, E_ldR_a, E_ldR_b, E_rI_0, E_stI_0, E_stR_0, aL_91, am_cc, am_nl, am_ok, am_pop, am_rt, am_set, cC_0, cC_10, cC_11, cC_6, cC_91, rQ_91, rR_1200, rR_1205, rR_701, sN_91, kX11_misses, hk1, cC_10, ↓s_fitsX i _ σ1 _ hk1, bI_z, ed, q, not_false_eq_true, nI_1]
      exact go _
theorem l_missM {kk : Nat} {Q : PO} : ∀ (r i : Nat) (σ : HS), Inv kk σ → i + r = gN σ 10 → (∀ σ', frm PHM σ σ' → Q (some (.inl (nI (misN σ (gN σ 10))))) σ') →
    am_T (kX12_misses S1) MM Q 4 [some (.inr (.inr (some (12, 0)))), some (.inl (nI (misN σ i))), some (.inl (nI i))] [] σ 0 0 := by
  intro r
  induction r with
  | zero =>
    intro i σ h hi hQ
    obtain ⟨hw1, hw2, hw⟩ := h.wc
    have e : i = gN σ 10 := by omega
    subst e
    rw [hX12_misses 6]
    have h0 : ¬ nI (gN σ 10) < nI (gN σ 10) := nI_nlt (by omega) (by omega)
    simp only [am_run_s, bt, lf, am_in, am_ar, am_fit, am_ld, am_ct, Nat.reduceLT, Nat.reduceEqDiff, reduceIte, Nat.reduceAdd, Nat.reduceLeDiff, Nat.reduceSub, Bool.false_eq_true, if_true, if_false, ite_true, ite_false, List.length_cons, List.length_nil, Nat.zero_add, Nat.add_zero, and_true, true_and, true_or, or_true, and_self, Nat.le_refl, Nat.lt_irrefl, gI_sI, gL_sL, gQ_sQ, gI_sJ, gI_sL, gI_sQ, gL_sI, gL_sQ, gL_sJ, gQ_sI, gQ_sL, gQ_sJ, gN_sI, gN_sL, gN_sQ, gN_sJ, E_b2_0, E_cV_a, E_cV_b, E_c_0, E_getI_0, E_inc_a, E_inc_b, E_jl_0, E_jmp_0, E_jz_0, E_kk, E_ldI_a, E_ldI_b, E_ldR_a, E_ldR_b, E_rI_0, E_stI_0, am_cc, am_nl, am_ok, am_pop, am_rt, am_set, cC_12, kX12_misses, hw2, h0]
    exact hQ σ frm.rf
  | succ r ih =>
    intro i σ h hi hQ
    obtain ⟨hw1, hw2, hw⟩ := h.wc
    have hk : i < gN σ 10 := by omega
    have h2 := nI_t hk (by omega)
    rw [hX12_misses 20]
    simp only [am_run_s, bt, lf, am_in, am_ar, am_fit, am_ld, am_ct, Nat.reduceLT, Nat.reduceEqDiff, reduceIte, Nat.reduceAdd, Nat.reduceLeDiff, Nat.reduceSub, Bool.false_eq_true, if_true, if_false, ite_true, ite_false, List.length_cons, List.length_nil, Nat.zero_add, Nat.add_zero, and_true, true_and, true_or, or_true, and_self, Nat.le_refl, Nat.lt_irrefl, gI_sI, gL_sL, gQ_sQ, gI_sJ, gI_sL, gI_sQ, gL_sI, gL_sQ, gL_sJ, gQ_sI, gQ_sL, gQ_sJ, gN_sI, gN_sL, gN_sQ, gN_sJ, E_b2_0, E_cV_a, E_cV_b, E_c_0, E_getI_0, E_inc_a, E_inc_b, E_jl_0, E_jmp_0, E_jz_0, E_kk, E_ldI_a, E_ldI_b, E_ldR_a, E_ldR_b, E_rI_0, E_stI_0, am_cc, am_nl, am_ok, am_pop, am_rt, am_set, cC_12, kX12_misses, hw2, h2]
    refine c_looksAt h hk (fun σ1 f1 m1 => ?_)
    have g := h.hm f1
    have hg : gN σ1 10 = gN σ 10 := f1.gn 10
    simp only [am_run_s, bt, lf, am_in, am_ar, am_fit, am_ld, am_ct, Nat.reduceLT, Nat.reduceEqDiff, reduceIte, Nat.reduceAdd, Nat.reduceLeDiff, Nat.reduceSub, Bool.false_eq_true, if_true, if_false, ite_true, ite_false, List.length_cons, List.length_nil, Nat.zero_add, Nat.add_zero, and_true, true_and, true_or, or_true, and_self, Nat.le_refl, Nat.lt_irrefl, gI_sI, gL_sL, gQ_sQ, gI_sJ, gI_sL, gI_sQ, gL_sI, gL_sQ, gL_sJ, gQ_sI, gQ_sL, gQ_sJ, gN_sI, gN_sL, gN_sQ, gN_sJ, E_b2_0, E_cV_a, E_cV_b, E_c_0, E_getI_0, E_inc_a, E_inc_b, E_jl_0, E_jmp_0, E_jz_0, E_kk, E_ldI_a, E_ldI_b, E_ldR_a, E_ldR_b, E_rI_0, E_stI_0, am_cc, am_nl, am_ok, am_pop, am_rt, am_set, cC_12, kX12_misses]
    rw [← hg] at m1
    refine c_fitsM g m1 (by omega) (hR_self σ i) ?_
    have ef : fitP σ1 (hR σ i) i = fitP σ (hR σ i) i := by
      unfold fitP
      rw [dOf_m f1, f1.gi rfl]
    rw [ef]
    have go := ih (i + 1) σ1 g (by omega) (fun σ' f2 => by rw [misN_m f1, hg]; exact hQ σ' (f1.tr f2))
    rw [misN_m f1, misN_s] at go
    cases e : fitP σ (hR σ i) i with
    | true =>
      rw [e, if_pos rfl] at go
      have e0 : (bb true = 0) = False := by decide
      have en : nI (misN σ i) + 0 = nI (misN σ i + 0) := by rw [zI, nI_add]
      simp only [am_run_s, bt, lf, am_in, am_ar, am_fit, am_ld, am_ct, Nat.reduceLT, Nat.reduceEqDiff, reduceIte, Nat.reduceAdd, Nat.reduceLeDiff, Nat.reduceSub, Bool.false_eq_true, if_true, if_false, ite_true, ite_false, List.length_cons, List.length_nil, Nat.zero_add, Nat.add_zero, and_true, true_and, true_or, or_true, and_self, Nat.le_refl, Nat.lt_irrefl, gI_sI, gL_sL, gQ_sQ, gI_sJ, gI_sL, gI_sQ, gL_sI, gL_sQ, gL_sJ, gQ_sI, gQ_sL, gQ_sJ, gN_sI, gN_sL, gN_sQ, gN_sJ, E_b2_0, E_cV_a, E_cV_b, E_c_0, E_getI_0, E_inc_a, E_inc_b, E_jl_0, E_jmp_0, E_jz_0, E_kk, E_ldI_a, E_ldI_b, E_ldR_a, E_ldR_b, E_rI_0, E_stI_0, am_cc, am_nl, am_ok, am_pop, am_rt, am_set, cC_12, kX12_misses, e0, en, nI_1]
      exact go
    | false =>
      rw [e, if_neg (by decide)] at go
      have e0 : (bb false = 0) = True := by decide
      simp only [am_run_s, bt, lf, am_in, am_ar, am_fit, am_ld, am_ct, Nat.reduceLT, Nat.reduceEqDiff, reduceIte, Nat.reduceAdd, Nat.reduceLeDiff, Nat.reduceSub, Bool.false_eq_true, if_true, if_false, ite_true, ite_false, List.length_cons, List.length_nil, Nat.zero_add, Nat.add_zero, and_true, true_and, true_or, or_true, and_self, Nat.le_refl, Nat.lt_irrefl, gI_sI, gL_sL, gQ_sQ, gI_sJ, gI_sL, gI_sQ, gL_sI, gL_sQ, gL_sJ, gQ_sI, gQ_sL, gQ_sJ, gN_sI, gN_sL, gN_sQ, gN_sJ, E_b2_0, E_cV_a, E_cV_b, E_c_0, E_getI_0, E_inc_a, E_inc_b, E_jl_0, E_jmp_0, E_jz_0, E_kk, E_ldI_a, E_ldI_b, E_ldR_a, E_ldR_b, E_rI_0, E_stI_0, am_cc, am_nl, am_ok, am_pop, am_rt, am_set, cC_12, kX12_misses, e0, nI_1]
      exact go
theorem api_misses : apiI 117 203 [] := by
  intro k σ hk h
  rw [eX11_misses 6]
  simp only [am_run_s, bt, lf, am_in, am_ar, am_fit, am_ld, am_ct, Nat.reduceLT, Nat.reduceEqDiff, reduceIte, Nat.reduceAdd, Nat.reduceLeDiff, Nat.reduceSub, Bool.false_eq_true, if_true, if_false, ite_true, ite_false, List.length_cons, List.length_nil, Nat.zero_add, Nat.add_zero, and_true, true_and, true_or, or_true, and_self, Nat.le_refl, Nat.lt_irrefl, gI_sI, gL_sL, gQ_sQ, gI_sJ, gI_sL, gI_sQ, gL_sI, gL_sQ, gL_sJ, gQ_sI, gQ_sL, gQ_sJ, gN_sI, gN_sL, gN_sQ, gN_sJ, E_aald_0, E_cV_a, E_cV_b, E_c_0, E_getI_0, E_getR_0, E_inc_a, E_inc_b, E_jl_0, E_jmp_0, E_jz_0, E_kk, E_ldI_a, E_ldI_b, E_ldR_a, E_ldR_b, E_rI_0, E_stI_0, E_stR_0, aL_91, am_cc, am_nl, am_ok, am_pop, am_rt, am_set, cC_0, cC_10, cC_11, cC_6, cC_91, rQ_91, rR_1200, rR_1205, rR_701, sN_91, kX11_misses]
  refine l_missX (gN σ 10) 0 σ _ h (by omega) (fun σ1 f1 => ?_)
  have g := h.hx f1
  have hg : gN σ1 10 = gN σ 10 := f1.gn 10
  rw [eX12_misses 6]
  simp only [am_run_s, bt, lf, am_in, am_ar, am_fit, am_ld, am_ct, Nat.reduceLT, Nat.reduceEqDiff, reduceIte, Nat.reduceAdd, Nat.reduceLeDiff, Nat.reduceSub, Bool.false_eq_true, if_true, if_false, ite_true, ite_false, List.length_cons, List.length_nil, Nat.zero_add, Nat.add_zero, and_true, true_and, true_or, or_true, and_self, Nat.le_refl, Nat.lt_irrefl, gI_sI, gL_sL, gQ_sQ, gI_sJ, gI_sL, gI_sQ, gL_sI, gL_sQ, gL_sJ, gQ_sI, gQ_sL, gQ_sJ, gN_sI, gN_sL, gN_sQ, gN_sJ, E_b2_0, E_cV_a, E_cV_b, E_c_0, E_getI_0, E_inc_a, E_inc_b, E_jl_0, E_jmp_0, E_jz_0, E_kk, E_ldI_a, E_ldI_b, E_ldR_a, E_ldR_b, E_rI_0, E_stI_0, am_cc, am_nl, am_ok, am_pop, am_rt, am_set, cC_12, kX12_misses]
  refine l_missM (gN σ1 10) 0 σ1 g (by omega) (fun σ2 f2 => ?_)
  rw [misN_x f1, hg]
  exact ⟨⟨_, rfl, rfl⟩, (g.hm f2).up⟩
