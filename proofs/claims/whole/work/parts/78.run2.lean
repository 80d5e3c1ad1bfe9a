/-! ===== the run: the reference: all words come ===== -/
def PCM (f : Nat) : Bool := Nat.beq f 46 || Nat.beq f 50 || Nat.beq f 72 || Nat.beq f 45
theorem cm1_f (m : HS) (w : Nat) (fr : Int32) : frm PCM m (cm1 m w fr) := by
  unfold cm1
  by_cases q : gI m 72 w = 0
  · rw [if_pos q]; exact (frm.rf.si rfl).si rfl
  · rw [if_neg q]; exact ((frm.rf.si rfl).si rfl).si rfl
theorem cmT_f (m : HS) (w : Nat) : frm PCM m (cmT m w) := by
  unfold cmT
  have f1 : frm PCM m (nx1 m w) := frm.rf.si rfl
  by_cases q : gI m 1342 0 < dueM m w
  · rw [if_pos q]; exact frm.rf
  · rw [if_neg q]
    by_cases z : gI m 34 (gI m 37 w).toNatClampNeg < 256
    · rw [if_pos z]; exact f1.tr (cm1_f _ _ _)
    · rw [if_neg z]; exact f1
theorem cmA_f (m : HS) (w : Nat) : frm PCM m (cmA m w) := by
  unfold cmA
  by_cases z : gI m 34 (gI m 37 w).toNatClampNeg < 256
  · rw [if_pos z]; exact cm1_f _ _ _
  · rw [if_neg z]; exact frm.rf
def cmW (m : HS) (w : Nat) : HS := if gI m 39 w = 0 ∨ gI m 39 w = 1 then cmT m w else if (gI m 39 w = 3 ∧ gI m 47 w = gI m 1342 0) ∨ (gI m 39 w = 2 ∧ gI m 48 w = gI m 1342 0) then cmA m w else m
theorem cmW_f (m : HS) (w : Nat) : frm PCM m (cmW m w) := by
  unfold cmW
  split
  · exact cmT_f m w
  · split
    · exact cmA_f m w
    · exact frm.rf
def cmN (m : HS) : Nat → HS
  | 0 => m
  | i + 1 => cmW (cmN m i) i
theorem cmN_f (m : HS) : ∀ n, frm PCM m (cmN m n)
  | 0 => frm.rf
  | n + 1 => (cmN_f m n).tr (cmW_f _ _)
/-- what is asked of the next times -/
def NT (m : HS) (w : Nat) : Prop := (gI m 39 w = 0 ∨ gI m 39 w = 1) → ∃ n k : Nat, gI m 46 w = nI n ∧ n ≤ 26600 ∧ gI m 1342 0 = nI k ∧ k ≤ 2560000 ∧ ∀ f t : Nat, gI m 42 w = nI f → gI m 41 w = nI t → f ≤ 100000 → t ≤ 100000 → f + n * t ≤ 2660000
theorem r_acW {m : HS} {w nw : Nat} (hnw : gI m 1314 0 = nI nw) (h24 : nw ≤ 24) (hw : w < nw) (wf : WF m w) (nt : NT m w) : Rp (kX12_allCome S1) 2 [some rM, some (.inl (nI w))] m 2 [some rM, some (.inl (nI (w + 1)))] (cmW m w) := by
  intro σ Q hm hX
  have wf' := wf
  obtain ⟨h, kd, f, t, l, a1, a2, a3, a4, -⟩ := wf
  have h2 := nI_t hw (by omega)
  have h3 : vp_in (nI w) 24 := vp_in_nI (by omega) (by omega)
  have h4 : (nI w).toNatClampNeg = w := nI_clamp (by omega)
  have h6 : (nI h).toNatClampNeg = h := nI_clamp (by omega)
  have c0 : gI σ 1314 0 = nI nw := by rw [hm.gi rfl]; exact hnw
  have c1 : gI σ 39 w = nI kd := by rw [hm.gi rfl]; exact a3
  have c2 : gI σ 37 w = nI h := by rw [hm.gi rfl]; exact a1
  have c3 : gI σ 47 w = gI m 47 w := hm.gi rfl
  have c4 : gI σ 48 w = gI m 48 w := hm.gi rfl
  have c5 : gI σ 1342 0 = gI m 1342 0 := hm.gi rfl
  have c6 : gI σ 34 h = gI m 34 h := hm.gi rfl
  unfold cmW at hX
  rw [a3] at hX
  rcases (show (kd = 0 ∨ kd = 1) ∨ kd = 3 ∨ kd = 2 by omega) with hk | rfl | rfl
  · have hk2 : nI kd = 0 ∨ nI kd = 1 := by
      rcases hk with rfl | rfl
      · exact Or.inl (by decide)
      · exact Or.inr (by decide)
    have k1 : nI kd < 2 := by rcases hk with rfl | rfl <;> decide
    have k2 : ¬ nI kd = 3 := by rcases hk with rfl | rfl <;> decide
    have k3 : ¬ nI kd = 2 := by rcases hk with rfl | rfl <;> decide
    rw [if_pos hk2] at hX
    obtain ⟨n, k, n1, n2, n3, n4, n5⟩ := nt (by rw [a3]; exact hk2)
    rw [hX12_allCome 27]
    simp only [am_run_s, bt, lf, am_in, am_ar, am_fit, am_ld, am_ct, Nat.reduceLT, Nat.reduceEqDiff, reduceIte, Nat.reduceAdd, Nat.reduceLeDiff, Nat.reduceSub, Bool.false_eq_true, if_true, if_false, ite_true, ite_false, List.length_cons, List.length_nil, Nat.zero_add, Nat.add_zero, and_true, true_and, true_or, or_true, and_self, Nat.le_refl, Nat.lt_irrefl, gI_sI, gL_sL, gQ_sQ, gI_sJ, gI_sL, gI_sQ, gL_sI, gL_sQ, gL_sJ, gQ_sI, gQ_sL, gQ_sJ, gN_sI, gN_sL, gN_sQ, gN_sJ, E_cV_a, E_cV_b, E_c_0, E_getI_0, E_getR_0, E_iald_0, E_inc_a, E_inc_b, E_je_0, E_jl_0, E_jmp_0, E_jz_0, E_kk, E_ldI_a, E_ldI_b, E_ldR_a, E_ldR_b, E_rV_0, E_stI_0, aL_37, aL_39, aL_47, aL_48, am_cc, am_nl, am_ok, am_pop, am_rt, am_set, cC_12, cC_37, cC_39, cC_47, cC_48, rR_1304, rR_1306, rR_1318, rR_1319, kX12_allCome, kX12_allCome_0, kX12_allCome_1, c0, h2, h3, h4, c1, k1]
    refine r_cbt (by omega) wf' (by rw [a3]; exact hk2) n1 n2 n3 n4 n5 σ _ hm (fun σ1 m1 f1 => ?_)
    have c1' : gI σ1 39 w = nI kd := by rw [m1.gi rfl, (cmT_f m w).gi rfl]; exact a3
    simp only [am_run_s, bt, lf, am_in, am_ar, am_fit, am_ld, am_ct, Nat.reduceLT, Nat.reduceEqDiff, reduceIte, Nat.reduceAdd, Nat.reduceLeDiff, Nat.reduceSub, Bool.false_eq_true, if_true, if_false, ite_true, ite_false, List.length_cons, List.length_nil, Nat.zero_add, Nat.add_zero, and_true, true_and, true_or, or_true, and_self, Nat.le_refl, Nat.lt_irrefl, gI_sI, gL_sL, gQ_sQ, gI_sJ, gI_sL, gI_sQ, gL_sI, gL_sQ, gL_sJ, gQ_sI, gQ_sL, gQ_sJ, gN_sI, gN_sL, gN_sQ, gN_sJ, E_cV_a, E_cV_b, E_c_0, E_getI_0, E_getR_0, E_iald_0, E_inc_a, E_inc_b, E_je_0, E_jl_0, E_jmp_0, E_jz_0, E_kk, E_ldI_a, E_ldI_b, E_ldR_a, E_ldR_b, E_rV_0, E_stI_0, aL_37, aL_39, aL_47, aL_48, am_cc, am_nl, am_ok, am_pop, am_rt, am_set, cC_12, cC_37, cC_39, cC_47, cC_48, rR_1304, rR_1306, rR_1318, rR_1319, kX12_allCome, kX12_allCome_0, kX12_allCome_1, h3, h4, c1', k2, k3, nI_1]
    exact hX σ1 m1 f1
  · have k0 : ¬ (nI 3 = 0 ∨ nI 3 = 1) := by decide
    have k1 : ¬ nI 3 < 2 := by decide
    have k2 : (nI 3 = 3) = True := eq_true (by decide)
    have k3 : (nI 3 = 2) = False := eq_false (by decide)
    rw [if_neg k0] at hX
    by_cases q : gI m 47 w = gI m 1342 0
    · rw [if_pos (Or.inl ⟨by decide, q⟩)] at hX
      unfold cmA at hX
      rw [a1, h6] at hX
      by_cases z : gI m 34 h < 256
      · rw [if_pos z] at hX
        rw [hX12_allCome 46]
        simp only [am_run_s, bt, lf, am_in, am_ar, am_fit, am_ld, am_ct, Nat.reduceLT, Nat.reduceEqDiff, reduceIte, Nat.reduceAdd, Nat.reduceLeDiff, Nat.reduceSub, Bool.false_eq_true, if_true, if_false, ite_true, ite_false, List.length_cons, List.length_nil, Nat.zero_add, Nat.add_zero, and_true, true_and, true_or, or_true, and_self, Nat.le_refl, Nat.lt_irrefl, gI_sI, gL_sL, gQ_sQ, gI_sJ, gI_sL, gI_sQ, gL_sI, gL_sQ, gL_sJ, gQ_sI, gQ_sL, gQ_sJ, gN_sI, gN_sL, gN_sQ, gN_sJ, E_cV_a, E_cV_b, E_c_0, E_getI_0, E_getR_0, E_iald_0, E_inc_a, E_inc_b, E_je_0, E_jl_0, E_jmp_0, E_jz_0, E_kk, E_ldI_a, E_ldI_b, E_ldR_a, E_ldR_b, E_rV_0, E_stI_0, aL_37, aL_39, aL_47, aL_48, am_cc, am_nl, am_ok, am_pop, am_rt, am_set, cC_12, cC_37, cC_39, cC_47, cC_48, rR_1304, rR_1306, rR_1318, rR_1319, kX12_allCome, kX12_allCome_0, kX12_allCome_1, c0, h2, h3, h4, c1, c2, c3, c5, c6, k1, k2, q, ↓s_MisOff h _ _ a2, bI_z, z, not_true_eq_false, not_false_eq_true]
        refine r_comes (by omega) _ σ _ hm (fun σ1 m1 f1 => ?_)
        have c1' : gI σ1 39 w = nI 3 := by rw [m1.gi rfl, (cm1_f m w _).gi rfl]; exact a3
        simp only [am_run_s, bt, lf, am_in, am_ar, am_fit, am_ld, am_ct, Nat.reduceLT, Nat.reduceEqDiff, reduceIte, Nat.reduceAdd, Nat.reduceLeDiff, Nat.reduceSub, Bool.false_eq_true, if_true, if_false, ite_true, ite_false, List.length_cons, List.length_nil, Nat.zero_add, Nat.add_zero, and_true, true_and, true_or, or_true, and_self, Nat.le_refl, Nat.lt_irrefl, gI_sI, gL_sL, gQ_sQ, gI_sJ, gI_sL, gI_sQ, gL_sI, gL_sQ, gL_sJ, gQ_sI, gQ_sL, gQ_sJ, gN_sI, gN_sL, gN_sQ, gN_sJ, E_cV_a, E_cV_b, E_c_0, E_getI_0, E_getR_0, E_iald_0, E_inc_a, E_inc_b, E_je_0, E_jl_0, E_jmp_0, E_jz_0, E_kk, E_ldI_a, E_ldI_b, E_ldR_a, E_ldR_b, E_rV_0, E_stI_0, aL_37, aL_39, aL_47, aL_48, am_cc, am_nl, am_ok, am_pop, am_rt, am_set, cC_12, cC_37, cC_39, cC_47, cC_48, rR_1304, rR_1306, rR_1318, rR_1319, kX12_allCome, kX12_allCome_0, kX12_allCome_1, h3, h4, c1', k3, nI_1]
        exact hX σ1 m1 f1
      · rw [if_neg z] at hX
        rw [hX12_allCome 42]
        simp only [am_run_s, bt, lf, am_in, am_ar, am_fit, am_ld, am_ct, Nat.reduceLT, Nat.reduceEqDiff, reduceIte, Nat.reduceAdd, Nat.reduceLeDiff, Nat.reduceSub, Bool.false_eq_true, if_true, if_false, ite_true, ite_false, List.length_cons, List.length_nil, Nat.zero_add, Nat.add_zero, and_true, true_and, true_or, or_true, and_self, Nat.le_refl, Nat.lt_irrefl, gI_sI, gL_sL, gQ_sQ, gI_sJ, gI_sL, gI_sQ, gL_sI, gL_sQ, gL_sJ, gQ_sI, gQ_sL, gQ_sJ, gN_sI, gN_sL, gN_sQ, gN_sJ, E_cV_a, E_cV_b, E_c_0, E_getI_0, E_getR_0, E_iald_0, E_inc_a, E_inc_b, E_je_0, E_jl_0, E_jmp_0, E_jz_0, E_kk, E_ldI_a, E_ldI_b, E_ldR_a, E_ldR_b, E_rV_0, E_stI_0, aL_37, aL_39, aL_47, aL_48, am_cc, am_nl, am_ok, am_pop, am_rt, am_set, cC_12, cC_37, cC_39, cC_47, cC_48, rR_1304, rR_1306, rR_1318, rR_1319, kX12_allCome, kX12_allCome_0, kX12_allCome_1, c0, h2, h3, h4, c1, c2, c3, c5, c6, k1, k2, k3, q, ↓s_MisOff h _ _ a2, bI_z, z, not_true_eq_false, not_false_eq_true, nI_1]
        exact hX σ hm frm.rf
    · have qq : ¬ ((nI 3 = 3 ∧ gI m 47 w = gI m 1342 0) ∨ (nI 3 = 2 ∧ gI m 48 w = gI m 1342 0)) := by
        rintro (z | z)
        · exact q z.2
        · exact absurd z.1 (by decide)
      rw [if_neg qq] at hX
      rw [hX12_allCome 34]
      simp only [am_run_s, bt, lf, am_in, am_ar, am_fit, am_ld, am_ct, Nat.reduceLT, Nat.reduceEqDiff, reduceIte, Nat.reduceAdd, Nat.reduceLeDiff, Nat.reduceSub, Bool.false_eq_true, if_true, if_false, ite_true, ite_false, List.length_cons, List.length_nil, Nat.zero_add, Nat.add_zero, and_true, true_and, true_or, or_true, and_self, Nat.le_refl, Nat.lt_irrefl, gI_sI, gL_sL, gQ_sQ, gI_sJ, gI_sL, gI_sQ, gL_sI, gL_sQ, gL_sJ, gQ_sI, gQ_sL, gQ_sJ, gN_sI, gN_sL, gN_sQ, gN_sJ, E_cV_a, E_cV_b, E_c_0, E_getI_0, E_getR_0, E_iald_0, E_inc_a, E_inc_b, E_je_0, E_jl_0, E_jmp_0, E_jz_0, E_kk, E_ldI_a, E_ldI_b, E_ldR_a, E_ldR_b, E_rV_0, E_stI_0, aL_37, aL_39, aL_47, aL_48, am_cc, am_nl, am_ok, am_pop, am_rt, am_set, cC_12, cC_37, cC_39, cC_47, cC_48, rR_1304, rR_1306, rR_1318, rR_1319, kX12_allCome, kX12_allCome_0, kX12_allCome_1, c0, h2, h3, h4, c1, c3, c5, k1, k2, k3, q, nI_1]
      exact hX σ hm frm.rf
  · have k0 : ¬ (nI 2 = 0 ∨ nI 2 = 1) := by decide
    have k1 : ¬ nI 2 < 2 := by decide
    have k2 : (nI 2 = 3) = False := eq_false (by decide)
    have k3 : (nI 2 = 2) = True := eq_true (by decide)
    rw [if_neg k0] at hX
    by_cases q : gI m 48 w = gI m 1342 0
    · rw [if_pos (Or.inr ⟨by decide, q⟩)] at hX
      unfold cmA at hX
      rw [a1, h6] at hX
      by_cases z : gI m 34 h < 256
      · rw [if_pos z] at hX
        rw [hX12_allCome 46]
        simp only [am_run_s, bt, lf, am_in, am_ar, am_fit, am_ld, am_ct, Nat.reduceLT, Nat.reduceEqDiff, reduceIte, Nat.reduceAdd, Nat.reduceLeDiff, Nat.reduceSub, Bool.false_eq_true, if_true, if_false, ite_true, ite_false, List.length_cons, List.length_nil, Nat.zero_add, Nat.add_zero, and_true, true_and, true_or, or_true, and_self, Nat.le_refl, Nat.lt_irrefl, gI_sI, gL_sL, gQ_sQ, gI_sJ, gI_sL, gI_sQ, gL_sI, gL_sQ, gL_sJ, gQ_sI, gQ_sL, gQ_sJ, gN_sI, gN_sL, gN_sQ, gN_sJ, E_cV_a, E_cV_b, E_c_0, E_getI_0, E_getR_0, E_iald_0, E_inc_a, E_inc_b, E_je_0, E_jl_0, E_jmp_0, E_jz_0, E_kk, E_ldI_a, E_ldI_b, E_ldR_a, E_ldR_b, E_rV_0, E_stI_0, aL_37, aL_39, aL_47, aL_48, am_cc, am_nl, am_ok, am_pop, am_rt, am_set, cC_12, cC_37, cC_39, cC_47, cC_48, rR_1304, rR_1306, rR_1318, rR_1319, kX12_allCome, kX12_allCome_0, kX12_allCome_1, c0, h2, h3, h4, c1, c2, c4, c5, c6, k1, k2, k3, q, ↓s_MisOff h _ _ a2, bI_z, z, not_true_eq_false, not_false_eq_true]
        refine r_comes (by omega) _ σ _ hm (fun σ1 m1 f1 => ?_)
        simp only [am_run_s, bt, lf, am_in, am_ar, am_fit, am_ld, am_ct, Nat.reduceLT, Nat.reduceEqDiff, reduceIte, Nat.reduceAdd, Nat.reduceLeDiff, Nat.reduceSub, Bool.false_eq_true, if_true, if_false, ite_true, ite_false, List.length_cons, List.length_nil, Nat.zero_add, Nat.add_zero, and_true, true_and, true_or, or_true, and_self, Nat.le_refl, Nat.lt_irrefl, gI_sI, gL_sL, gQ_sQ, gI_sJ, gI_sL, gI_sQ, gL_sI, gL_sQ, gL_sJ, gQ_sI, gQ_sL, gQ_sJ, gN_sI, gN_sL, gN_sQ, gN_sJ, E_cV_a, E_cV_b, E_c_0, E_getI_0, E_getR_0, E_iald_0, E_inc_a, E_inc_b, E_je_0, E_jl_0, E_jmp_0, E_jz_0, E_kk, E_ldI_a, E_ldI_b, E_ldR_a, E_ldR_b, E_rV_0, E_stI_0, aL_37, aL_39, aL_47, aL_48, am_cc, am_nl, am_ok, am_pop, am_rt, am_set, cC_12, cC_37, cC_39, cC_47, cC_48, rR_1304, rR_1306, rR_1318, rR_1319, kX12_allCome, kX12_allCome_0, kX12_allCome_1, nI_1]
        exact hX σ1 m1 f1
      · rw [if_neg z] at hX
        rw [hX12_allCome 42]
        simp only [am_run_s, bt, lf, am_in, am_ar, am_fit, am_ld, am_ct, Nat.reduceLT, Nat.reduceEqDiff, reduceIte, Nat.reduceAdd, Nat.reduceLeDiff, Nat.reduceSub, Bool.false_eq_true, if_true, if_false, ite_true, ite_false, List.length_cons, List.length_nil, Nat.zero_add, Nat.add_zero, and_true, true_and, true_or, or_true, and_self, Nat.le_refl, Nat.lt_irrefl, gI_sI, gL_sL, gQ_sQ, gI_sJ, gI_sL, gI_sQ, gL_sI, gL_sQ, gL_sJ, gQ_sI, gQ_sL, gQ_sJ, gN_sI, gN_sL, gN_sQ, gN_sJ, E_cV_a, E_cV_b, E_c_0, E_getI_0, E_getR_0, E_iald_0, E_inc_a, E_inc_b, E_je_0, E_jl_0, E_jmp_0, E_jz_0, E_kk, E_ldI_a, E_ldI_b, E_ldR_a, E_ldR_b, E_rV_0, E_stI_0, aL_37, aL_39, aL_47, aL_48, am_cc, am_nl, am_ok, am_pop, am_rt, am_set, cC_12, cC_37, cC_39, cC_47, cC_48, rR_1304, rR_1306, rR_1318, rR_1319, kX12_allCome, kX12_allCome_0, kX12_allCome_1, c0, h2, h3, h4, c1, c2, c4, c5, c6, k1, k2, k3, q, ↓s_MisOff h _ _ a2, bI_z, z, not_true_eq_false, not_false_eq_true, nI_1]
        exact hX σ hm frm.rf
    · have qq : ¬ ((nI 2 = 3 ∧ gI m 47 w = gI m 1342 0) ∨ (nI 2 = 2 ∧ gI m 48 w = gI m 1342 0)) := by
        rintro (z | z)
        · exact absurd z.1 (by decide)
        · exact q z.2
      rw [if_neg qq] at hX
      rw [hX12_allCome 34]
      simp only [am_run_s, bt, lf, am_in, am_ar, am_fit, am_ld, am_ct, Nat.reduceLT, Nat.reduceEqDiff, reduceIte, Nat.reduceAdd, Nat.reduceLeDiff, Nat.reduceSub, Bool.false_eq_true, if_true, if_false, ite_true, ite_false, List.length_cons, List.length_nil, Nat.zero_add, Nat.add_zero, and_true, true_and, true_or, or_true, and_self, Nat.le_refl, Nat.lt_irrefl, gI_sI, gL_sL, gQ_sQ, gI_sJ, gI_sL, gI_sQ, gL_sI, gL_sQ, gL_sJ, gQ_sI, gQ_sL, gQ_sJ, gN_sI, gN_sL, gN_sQ, gN_sJ, E_cV_a, E_cV_b, E_c_0, E_getI_0, E_getR_0, E_iald_0, E_inc_a, E_inc_b, E_je_0, E_jl_0, E_jmp_0, E_jz_0, E_kk, E_ldI_a, E_ldI_b, E_ldR_a, E_ldR_b, E_rV_0, E_stI_0, aL_37, aL_39, aL_47, aL_48, am_cc, am_nl, am_ok, am_pop, am_rt, am_set, cC_12, cC_37, cC_39, cC_47, cC_48, rR_1304, rR_1306, rR_1318, rR_1319, kX12_allCome, kX12_allCome_0, kX12_allCome_1, c0, h2, h3, h4, c1, c4, c5, k1, k2, k3, q, nI_1]
      exact hX σ hm frm.rf
/-- all words, in their order -/
theorem r_acN {m : HS} {nw : Nat} (hnw : gI m 1314 0 = nI nw) (h24 : nw ≤ 24) (wf : ∀ w, w < nw → WF m w) (nt : ∀ w, w < nw → NT (cmN m w) w) : ∀ i, i ≤ nw → Rp (kX12_allCome S1) 2 [some rM, some (.inl (nI 0))] m 2 [some rM, some (.inl (nI i))] (cmN m i)
  | 0, _ => Rp.rf
  | i + 1, hi => by
    have f := cmN_f m i
    refine (r_acN hnw h24 wf nt i (by omega)).tr (r_acW (by rw [f.gi rfl]; exact hnw) h24 (by omega) ?_ (nt i (by omega)))
    obtain ⟨h, kd, ff, t, l, a⟩ := wf i (by omega)
    refine ⟨h, kd, ff, t, l, ?_⟩
    rw [f.gi rfl, f.gi rfl, f.gi rfl, f.gi rfl, f.gi rfl]
    exact a
theorem r_allCome {m : HS} {nw : Nat} (hnw : gI m 1314 0 = nI nw) (h24 : nw ≤ 24) (wf : ∀ w, w < nw → WF m w) (nt : ∀ w, w < nw → NT (cmN m w) w) : Rg 182 [] m (cmN m nw) := by
  intro σ Q hm hQ
  rw [eX12_allCome 2]
  simp only [am_run_s, bt, lf, am_in, am_ar, am_fit, am_ld, am_ct, Nat.reduceLT, Nat.reduceEqDiff, reduceIte, Nat.reduceAdd, Nat.reduceLeDiff, Nat.reduceSub, Bool.false_eq_true, if_true, if_false, ite_true, ite_false, List.length_cons, List.length_nil, Nat.zero_add, Nat.add_zero, and_true, true_and, true_or, or_true, and_self, Nat.le_refl, Nat.lt_irrefl, gI_sI, gL_sL, gQ_sQ, gI_sJ, gI_sL, gI_sQ, gL_sI, gL_sQ, gL_sJ, gQ_sI, gQ_sL, gQ_sJ, gN_sI, gN_sL, gN_sQ, gN_sJ, E_cV_a, E_cV_b, E_c_0, E_getI_0, E_getR_0, E_iald_0, E_inc_a, E_inc_b, E_je_0, E_jl_0, E_jmp_0, E_jz_0, E_kk, E_ldI_a, E_ldI_b, E_ldR_a, E_ldR_b, E_rV_0, E_stI_0, aL_37, aL_39, aL_47, aL_48, am_cc, am_nl, am_ok, am_pop, am_rt, am_set, cC_12, cC_37, cC_39, cC_47, cC_48, rR_1304, rR_1306, rR_1318, rR_1319, kX12_allCome, kX12_allCome_0, kX12_allCome_1]
  refine r_acN hnw h24 wf nt nw (Nat.le_refl _) σ Q hm (fun σ1 m1 f1 => ?_)
  have c0 : gI σ1 1314 0 = nI nw := by rw [m1.gi rfl, (cmN_f m nw).gi rfl]; exact hnw
  have h0 : ¬ nI nw < nI nw := nI_nlt (by omega) (by omega)
  rw [hX12_allCome 5]
  simp only [am_run_s, bt, lf, am_in, am_ar, am_fit, am_ld, am_ct, Nat.reduceLT, Nat.reduceEqDiff, reduceIte, Nat.reduceAdd, Nat.reduceLeDiff, Nat.reduceSub, Bool.false_eq_true, if_true, if_false, ite_true, ite_false, List.length_cons, List.length_nil, Nat.zero_add, Nat.add_zero, and_true, true_and, true_or, or_true, and_self, Nat.le_refl, Nat.lt_irrefl, gI_sI, gL_sL, gQ_sQ, gI_sJ, gI_sL, gI_sQ, gL_sI, gL_sQ, gL_sJ, gQ_sI, gQ_sL, gQ_sJ, gN_sI, gN_sL, gN_sQ, gN_sJ, E_cV_a, E_cV_b, E_c_0, E_getI_0, E_getR_0, E_iald_0, E_inc_a, E_inc_b, E_je_0, E_jl_0, E_jmp_0, E_jz_0, E_kk, E_ldI_a, E_ldI_b, E_ldR_a, E_ldR_b, E_rV_0, E_stI_0, aL_37, aL_39, aL_47, aL_48, am_cc, am_nl, am_ok, am_pop, am_rt, am_set, cC_12, cC_37, cC_39, cC_47, cC_48, rR_1304, rR_1306, rR_1318, rR_1319, kX12_allCome, kX12_allCome_0, kX12_allCome_1, c0, h0]
  exact hQ σ1 m1 f1
