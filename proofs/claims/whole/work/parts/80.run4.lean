/-! ===== the run: the reference: silences, blame ===== -/
theorem AgM.sj {σ σ' m : HS} (h : AgM σ m) {f : Nat} {g : Nat → Int32} (hf : ∀ f' i, f' ≠ f → gI σ' f' i = gI σ f' i) (hg : ∀ i, gI σ' f i = g i) (hl : ∀ i, gL σ' 85 i = gL σ 85 i) : AgM σ' (sJ m f g) := by
  refine ⟨fun f' hf' i => ?_, fun i => by rw [hl]; exact h.2 i⟩
  rw [gI_sJ]
  by_cases e : f' = f
  · rw [if_pos e, e]; exact hg i
  · rw [if_neg e, hf f' i e]; exact h.1 f' hf' i
/-- none of a node's words waits any more -/
def sil (m : HS) (n nw : Nat) : HS := sJ (sI m 35 n (gI m 1342 0)) 72 (fun w => if w < nw ∧ gI m 37 w = nI n then 0 else gI m 72 w)
def PWT (f : Nat) : Bool := Nat.beq f 72
theorem l_silences {σ0 : HS} {n nw : Nat} (h24 : nw ≤ 24) (hnw : gI σ0 1314 0 = nI nw) {Q : PO} (hX : ∀ σ', frm PWT σ0 σ' → (∀ w, gI σ' 72 w = if w < nw ∧ gI σ0 37 w = nI n then 0 else gI σ0 72 w) → Q none σ') :
    ∀ (r i : Nat) (σ : HS), i + r = nw → frm PWT σ0 σ → (∀ w, gI σ 72 w = if w < i ∧ gI σ0 37 w = nI n then 0 else gI σ0 72 w) → am_T (kX12_silences S1) MM Q 12 [some rM, some (.inl (nI n)), some (.inl (nI i))] [] σ 0 0 := by
  intro r
  induction r with
  | zero =>
    intro i σ hi f0 hw
    have e : i = nw := by omega
    subst e
    have c1 : gI σ 1314 0 = nI i := by rw [f0.gi rfl]; exact hnw
    have h0 : ¬ nI i < nI i := nI_nlt (by omega) (by omega)
    rw [hX12_silences 5]
    simp only [am_run_s, bt, lf, am_in, am_ar, am_fit, am_ld, am_ct, Nat.reduceLT, Nat.reduceEqDiff, reduceIte, Nat.reduceAdd, Nat.reduceLeDiff, Nat.reduceSub, Bool.false_eq_true, if_true, if_false, ite_true, ite_false, List.length_cons, List.length_nil, Nat.zero_add, Nat.add_zero, and_true, true_and, true_or, or_true, and_self, Nat.le_refl, Nat.lt_irrefl, gI_sI, gL_sL, gQ_sQ, gI_sJ, gI_sL, gI_sQ, gL_sI, gL_sQ, gL_sJ, gQ_sI, gQ_sL, gQ_sJ, gN_sI, gN_sL, gN_sQ, gN_sJ, E_bast_0, E_c_0, E_getI_0, E_getR_0, E_iald_0, E_iast_0, E_inc_a, E_inc_b, E_je_0, E_jl_0, E_jmp_0, E_ldI_a, E_ldI_b, E_ldR_a, E_ldR_b, E_rV_0, E_stI_0, aL_35, aL_37, aL_72, am_nl, am_ok, am_set, cC_12, cC_35, cC_37, cC_72, rR_1302, rR_1304, rR_1315, kX12_silences, c1, h0]
    exact hX σ f0 hw
  | succ r ih =>
    intro i σ hi f0 hw
    have hk : i < nw := by omega
    have c1 : gI σ 1314 0 = nI nw := by rw [f0.gi rfl]; exact hnw
    have c2 : gI σ 37 i = gI σ0 37 i := f0.gi rfl
    have h2 := nI_t hk (by omega)
    have h3 : vp_in (nI i) 24 := vp_in_nI (by omega) (by omega)
    have h4 : (nI i).toNatClampNeg = i := nI_clamp (by omega)
    rw [hX12_silences 16]
    by_cases q : gI σ0 37 i = nI n
    · simp only [am_run_s, bt, lf, am_in, am_ar, am_fit, am_ld, am_ct, Nat.reduceLT, Nat.reduceEqDiff, reduceIte, Nat.reduceAdd, Nat.reduceLeDiff, Nat.reduceSub, Bool.false_eq_true, if_true, if_false, ite_true, ite_false, List.length_cons, List.length_nil, Nat.zero_add, Nat.add_zero, and_true, true_and, true_or, or_true, and_self, Nat.le_refl, Nat.lt_irrefl, gI_sI, gL_sL, gQ_sQ, gI_sJ, gI_sL, gI_sQ, gL_sI, gL_sQ, gL_sJ, gQ_sI, gQ_sL, gQ_sJ, gN_sI, gN_sL, gN_sQ, gN_sJ, E_bast_0, E_c_0, E_getI_0, E_getR_0, E_iald_0, E_iast_0, E_inc_a, E_inc_b, E_je_0, E_jl_0, E_jmp_0, E_ldI_a, E_ldI_b, E_ldR_a, E_ldR_b, E_rV_0, E_stI_0, aL_35, aL_37, aL_72, am_nl, am_ok, am_set, cC_12, cC_35, cC_37, cC_72, rR_1302, rR_1304, rR_1315, kX12_silences, c1, h2, h3, h4, c2, q, am_b0, nI_1]
      refine ih (i + 1) _ (by omega) (f0.si rfl) (fun w => ?_)
      simp only [gI_sI, gL_sL, gQ_sQ, gI_sJ, gI_sL, gI_sQ, gL_sI, gL_sQ, gL_sJ, gQ_sI, gQ_sL, gQ_sJ, gN_sI, gN_sL, gN_sQ, gN_sJ, Nat.reduceLT, Nat.reduceEqDiff, reduceIte, Nat.reduceAdd, Nat.reduceLeDiff, Nat.reduceSub, Bool.false_eq_true, if_true, if_false, ite_true, ite_false, List.length_cons, List.length_nil, Nat.zero_add, Nat.add_zero, and_true, true_and, true_or, or_true, and_self, Nat.le_refl, Nat.lt_irrefl]
      by_cases e : w = i
      · rw [if_pos e, if_pos ⟨by omega, by rw [e]; exact q⟩]
      · rw [if_neg e, hw w]
        by_cases e2 : w < i ∧ gI σ0 37 w = nI n
        · rw [if_pos e2, if_pos ⟨by omega, e2.2⟩]
        · rw [if_neg e2, if_neg (fun z => e2 ⟨by omega, z.2⟩)]
    · simp only [am_run_s, bt, lf, am_in, am_ar, am_fit, am_ld, am_ct, Nat.reduceLT, Nat.reduceEqDiff, reduceIte, Nat.reduceAdd, Nat.reduceLeDiff, Nat.reduceSub, Bool.false_eq_true, if_true, if_false, ite_true, ite_false, List.length_cons, List.length_nil, Nat.zero_add, Nat.add_zero, and_true, true_and, true_or, or_true, and_self, Nat.le_refl, Nat.lt_irrefl, gI_sI, gL_sL, gQ_sQ, gI_sJ, gI_sL, gI_sQ, gL_sI, gL_sQ, gL_sJ, gQ_sI, gQ_sL, gQ_sJ, gN_sI, gN_sL, gN_sQ, gN_sJ, E_bast_0, E_c_0, E_getI_0, E_getR_0, E_iald_0, E_iast_0, E_inc_a, E_inc_b, E_je_0, E_jl_0, E_jmp_0, E_ldI_a, E_ldI_b, E_ldR_a, E_ldR_b, E_rV_0, E_stI_0, aL_35, aL_37, aL_72, am_nl, am_ok, am_set, cC_12, cC_35, cC_37, cC_72, rR_1302, rR_1304, rR_1315, kX12_silences, c1, h2, h3, h4, c2, q, nI_1]
      refine ih (i + 1) σ (by omega) f0 (fun w => ?_)
      rw [hw w]
      by_cases e2 : w < i ∧ gI σ0 37 w = nI n
      · rw [if_pos e2, if_pos ⟨by omega, e2.2⟩]
      · rw [if_neg e2, if_neg (fun z => e2 ⟨by
          rcases Nat.lt_or_ge w i with y | y
          · exact y
          · exact absurd z.2 (by rw [show w = i by omega]; exact q), z.2⟩)]
theorem r_silences {m : HS} {n nw : Nat} (hn : n < 10) (h24 : nw ≤ 24) (hnw : gI m 1314 0 = nI nw) : Rg 186 [.inl (nI n)] m (sil m n nw) := by
  intro σ Q hm hQ
  have h3 : vp_in (nI n) 10 := vp_in_nI (by omega) (by omega)
  have h4 : (nI n).toNatClampNeg = n := nI_clamp (by omega)
  have c1 : gI σ 1342 0 = gI m 1342 0 := hm.gi rfl
  rw [eX12_silences 9]
  simp only [am_run_s, bt, lf, am_in, am_ar, am_fit, am_ld, am_ct, Nat.reduceLT, Nat.reduceEqDiff, reduceIte, Nat.reduceAdd, Nat.reduceLeDiff, Nat.reduceSub, Bool.false_eq_true, if_true, if_false, ite_true, ite_false, List.length_cons, List.length_nil, Nat.zero_add, Nat.add_zero, and_true, true_and, true_or, or_true, and_self, Nat.le_refl, Nat.lt_irrefl, gI_sI, gL_sL, gQ_sQ, gI_sJ, gI_sL, gI_sQ, gL_sI, gL_sQ, gL_sJ, gQ_sI, gQ_sL, gQ_sJ, gN_sI, gN_sL, gN_sQ, gN_sJ, E_bast_0, E_c_0, E_getI_0, E_getR_0, E_iald_0, E_iast_0, E_inc_a, E_inc_b, E_je_0, E_jl_0, E_jmp_0, E_ldI_a, E_ldI_b, E_ldR_a, E_ldR_b, E_rV_0, E_stI_0, aL_35, aL_37, aL_72, am_nl, am_ok, am_set, cC_12, cC_35, cC_37, cC_72, rR_1302, rR_1304, rR_1315, kX12_silences, h3, h4, c1]
  have hm1 : AgM (sI σ 35 n (gI m 1342 0)) (sI m 35 n (gI m 1342 0)) := hm.si _ _ _
  have f1 : frm PMA σ (sI σ 35 n (gI m 1342 0)) := frm.rf.si rfl
  revert hm1 f1
  generalize sI σ 35 n (gI m 1342 0) = σ1
  intro hm1 f1
  refine l_silences (σ0 := σ1) h24 (by rw [hm1.gi rfl]; exact hnw) (fun σ2 f2 w2 => ?_) nw 0 σ1 (by omega) frm.rf (fun w => by rw [if_neg (by omega)])
  refine hQ σ2 (hm1.sj (fun f' i e => f2.gi ?_) (fun w => ?_) (fun i => f2.gl _ _)) (f1.tr (f2.mo (fun f hf => ?_)))
  · unfold PWT
    cases z : Nat.beq f' 72 with
    | false => rfl
    | true => exact absurd (Nat.eq_of_beq_eq_true z) e
  · rw [w2 w, hm1.gi rfl, hm1.gi rfl]
    rfl
  · unfold PMA at hf
    simp only [Bool.or_eq_false_iff] at hf
    exact hf.1.2
/-- a node is blamed: by d; if it is OFF then, it is silent -/
def bl1 (m : HS) (i nw : Nat) (d : Int32) : HS := @ite _ (gI m 34 i < 256) inferInstance (@ite _ (gI m 34 i + d < 256) inferInstance (sI m 34 i (gI m 34 i + d)) (sil (sI m 34 i (gI m 34 i + d)) i nw)) m
theorem r_blame {m : HS} {w i n h nw : Nat} (hw : w < 24) (hn : gI m 1313 0 = nI n) (h10 : n ≤ 10) (hi : i < n) (hh : gI m 37 w = nI h) (hh2 : h < 10) (h24 : nw ≤ 24) (hnw : gI m 1314 0 = nI nw) : Rp (kX12_fails S1) 76 [some rM, some (.inl (nI w)), some (.inl (nI i))] m 76 [some rM, some (.inl (nI w)), some (.inl (nI (i + 1)))] (bl1 m i nw (if i = h then 8 else 1)) := by
  intro σ Q hm hX
  have h2 := nI_t hi (by omega)
  have h3 : vp_in (nI i) 10 := vp_in_nI (by omega) (by omega)
  have h4 : (nI i).toNatClampNeg = i := nI_clamp (by omega)
  have h5 : vp_in (nI w) 24 := vp_in_nI (by omega) (by omega)
  have h6 : (nI w).toNatClampNeg = w := nI_clamp (by omega)
  have c0 : gI σ 1313 0 = nI n := by rw [hm.gi rfl]; exact hn
  have c1 : gI σ 34 i = gI m 34 i := hm.gi rfl
  have c2 : gI σ 37 w = nI h := by rw [hm.gi rfl]; exact hh
  unfold bl1 at hX
  by_cases q : gI m 34 i < 256
  case neg =>
    rw [if_neg q] at hX
    rw [hX12_fails 10]
    simp only [am_run_s, bt, lf, am_in, am_ar, am_fit, am_ld, am_ct, Nat.reduceLT, Nat.reduceEqDiff, reduceIte, Nat.reduceAdd, Nat.reduceLeDiff, Nat.reduceSub, Bool.false_eq_true, if_true, if_false, ite_true, ite_false, List.length_cons, List.length_nil, Nat.zero_add, Nat.add_zero, and_true, true_and, true_or, or_true, and_self, Nat.le_refl, Nat.lt_irrefl, gI_sI, gL_sL, gQ_sQ, gI_sJ, gI_sL, gI_sQ, gL_sI, gL_sQ, gL_sJ, gQ_sI, gQ_sL, gQ_sJ, gN_sI, gN_sL, gN_sQ, gN_sJ, E_b2_0, E_bald_0, E_bast_0, E_cV_a, E_cV_b, E_c_0, E_dup2_0, E_dup_0, E_dup_1, E_getI_0, E_getR_0, E_iald_0, E_iast_0, E_inc_a, E_inc_b, E_je_0, E_jl_0, E_jmp_0, E_jz_0, E_kk, E_ldI_a, E_ldI_b, E_ldR_a, E_ldR_b, E_putI_0, E_rV_0, E_stI_0, aL_34, aL_36, aL_37, aL_45, aL_50, aL_72, am_cc, am_nl, am_ok, am_pop, am_rt, am_set, cC_12, cC_34, cC_36, cC_37, cC_45, cC_50, cC_72, rR_1301, rR_1303, rR_1304, rR_1315, rR_1316, rR_1321, kX12_fails, kX12_fails_0, kX12_fails_1, c0, h2, ↓s_MisOff i σ _ (show i < 10 by omega), bI_z, c1, q, not_true_eq_false, not_false_eq_true, nI_1]
    exact hX σ hm frm.rf
  rw [if_pos q] at hX
  have key : ∀ d : Int32, (if i = h then (8 : Int32) else 1) = d → am_T (kX12_fails S1) MM Q 120 [some rM, some (.inl (nI w)), some (.inl (nI i))] [] (sI σ 34 i (gI m 34 i + d)) 0 0 := by
    intro d hd
    rw [hd] at hX
    have hm1 : AgM (sI σ 34 i (gI m 34 i + d)) (sI m 34 i (gI m 34 i + d)) := hm.si _ _ _
    have f1 : frm PMA σ (sI σ 34 i (gI m 34 i + d)) := frm.rf.si rfl
    by_cases z : gI m 34 i + d < 256
    · rw [if_pos z] at hX
      rw [hX12_fails 6]
      simp only [am_run_s, bt, lf, am_in, am_ar, am_fit, am_ld, am_ct, Nat.reduceLT, Nat.reduceEqDiff, reduceIte, Nat.reduceAdd, Nat.reduceLeDiff, Nat.reduceSub, Bool.false_eq_true, if_true, if_false, ite_true, ite_false, List.length_cons, List.length_nil, Nat.zero_add, Nat.add_zero, and_true, true_and, true_or, or_true, and_self, Nat.le_refl, Nat.lt_irrefl, gI_sI, gL_sL, gQ_sQ, gI_sJ, gI_sL, gI_sQ, gL_sI, gL_sQ, gL_sJ, gQ_sI, gQ_sL, gQ_sJ, gN_sI, gN_sL, gN_sQ, gN_sJ, E_b2_0, E_bald_0, E_bast_0, E_cV_a, E_cV_b, E_c_0, E_dup2_0, E_dup_0, E_dup_1, E_getI_0, E_getR_0, E_iald_0, E_iast_0, E_inc_a, E_inc_b, E_je_0, E_jl_0, E_jmp_0, E_jz_0, E_kk, E_ldI_a, E_ldI_b, E_ldR_a, E_ldR_b, E_putI_0, E_rV_0, E_stI_0, aL_34, aL_36, aL_37, aL_45, aL_50, aL_72, am_cc, am_nl, am_ok, am_pop, am_rt, am_set, cC_12, cC_34, cC_36, cC_37, cC_45, cC_50, cC_72, rR_1301, rR_1303, rR_1304, rR_1315, rR_1316, rR_1321, kX12_fails, kX12_fails_0, kX12_fails_1, ↓s_MisOff i _ _ (show i < 10 by omega), bI_z, z, not_true_eq_false, not_false_eq_true, nI_1]
      exact hX _ hm1 f1
    · rw [if_neg z] at hX
      rw [hX12_fails 9]
      simp only [am_run_s, bt, lf, am_in, am_ar, am_fit, am_ld, am_ct, Nat.reduceLT, Nat.reduceEqDiff, reduceIte, Nat.reduceAdd, Nat.reduceLeDiff, Nat.reduceSub, Bool.false_eq_true, if_true, if_false, ite_true, ite_false, List.length_cons, List.length_nil, Nat.zero_add, Nat.add_zero, and_true, true_and, true_or, or_true, and_self, Nat.le_refl, Nat.lt_irrefl, gI_sI, gL_sL, gQ_sQ, gI_sJ, gI_sL, gI_sQ, gL_sI, gL_sQ, gL_sJ, gQ_sI, gQ_sL, gQ_sJ, gN_sI, gN_sL, gN_sQ, gN_sJ, E_b2_0, E_bald_0, E_bast_0, E_cV_a, E_cV_b, E_c_0, E_dup2_0, E_dup_0, E_dup_1, E_getI_0, E_getR_0, E_iald_0, E_iast_0, E_inc_a, E_inc_b, E_je_0, E_jl_0, E_jmp_0, E_jz_0, E_kk, E_ldI_a, E_ldI_b, E_ldR_a, E_ldR_b, E_putI_0, E_rV_0, E_stI_0, aL_34, aL_36, aL_37, aL_45, aL_50, aL_72, am_cc, am_nl, am_ok, am_pop, am_rt, am_set, cC_12, cC_34, cC_36, cC_37, cC_45, cC_50, cC_72, rR_1301, rR_1303, rR_1304, rR_1315, rR_1316, rR_1321, kX12_fails, kX12_fails_0, kX12_fails_1, ↓s_MisOff i _ _ (show i < 10 by omega), bI_z, z, not_true_eq_false, not_false_eq_true]
      refine r_silences (by omega) h24 (by simp only [gI_sI, gL_sL, gQ_sQ, gI_sJ, gI_sL, gI_sQ, gL_sI, gL_sQ, gL_sJ, gQ_sI, gQ_sL, gQ_sJ, gN_sI, gN_sL, gN_sQ, gN_sJ, Nat.reduceLT, Nat.reduceEqDiff, reduceIte, Nat.reduceAdd, Nat.reduceLeDiff, Nat.reduceSub, Bool.false_eq_true, if_true, if_false, ite_true, ite_false, List.length_cons, List.length_nil, Nat.zero_add, Nat.add_zero, and_true, true_and, true_or, or_true, and_self, Nat.le_refl, Nat.lt_irrefl]; exact hnw) _ _ hm1 (fun σ2 m2 f2 => ?_)
      simp only [am_run_s, bt, lf, am_in, am_ar, am_fit, am_ld, am_ct, Nat.reduceLT, Nat.reduceEqDiff, reduceIte, Nat.reduceAdd, Nat.reduceLeDiff, Nat.reduceSub, Bool.false_eq_true, if_true, if_false, ite_true, ite_false, List.length_cons, List.length_nil, Nat.zero_add, Nat.add_zero, and_true, true_and, true_or, or_true, and_self, Nat.le_refl, Nat.lt_irrefl, gI_sI, gL_sL, gQ_sQ, gI_sJ, gI_sL, gI_sQ, gL_sI, gL_sQ, gL_sJ, gQ_sI, gQ_sL, gQ_sJ, gN_sI, gN_sL, gN_sQ, gN_sJ, E_b2_0, E_bald_0, E_bast_0, E_cV_a, E_cV_b, E_c_0, E_dup2_0, E_dup_0, E_dup_1, E_getI_0, E_getR_0, E_iald_0, E_iast_0, E_inc_a, E_inc_b, E_je_0, E_jl_0, E_jmp_0, E_jz_0, E_kk, E_ldI_a, E_ldI_b, E_ldR_a, E_ldR_b, E_putI_0, E_rV_0, E_stI_0, aL_34, aL_36, aL_37, aL_45, aL_50, aL_72, am_cc, am_nl, am_ok, am_pop, am_rt, am_set, cC_12, cC_34, cC_36, cC_37, cC_45, cC_50, cC_72, rR_1301, rR_1303, rR_1304, rR_1315, rR_1316, rR_1321, kX12_fails, kX12_fails_0, kX12_fails_1, nI_1]
      exact hX σ2 m2 (f1.tr f2)
  by_cases e : i = h
  · have e' : (nI i = nI h) = True := eq_true (by rw [e])
    rw [hX12_fails 22]
    simp only [am_run_s, bt, lf, am_in, am_ar, am_fit, am_ld, am_ct, Nat.reduceLT, Nat.reduceEqDiff, reduceIte, Nat.reduceAdd, Nat.reduceLeDiff, Nat.reduceSub, Bool.false_eq_true, if_true, if_false, ite_true, ite_false, List.length_cons, List.length_nil, Nat.zero_add, Nat.add_zero, and_true, true_and, true_or, or_true, and_self, Nat.le_refl, Nat.lt_irrefl, gI_sI, gL_sL, gQ_sQ, gI_sJ, gI_sL, gI_sQ, gL_sI, gL_sQ, gL_sJ, gQ_sI, gQ_sL, gQ_sJ, gN_sI, gN_sL, gN_sQ, gN_sJ, E_b2_0, E_bald_0, E_bast_0, E_cV_a, E_cV_b, E_c_0, E_dup2_0, E_dup_0, E_dup_1, E_getI_0, E_getR_0, E_iald_0, E_iast_0, E_inc_a, E_inc_b, E_je_0, E_jl_0, E_jmp_0, E_jz_0, E_kk, E_ldI_a, E_ldI_b, E_ldR_a, E_ldR_b, E_putI_0, E_rV_0, E_stI_0, aL_34, aL_36, aL_37, aL_45, aL_50, aL_72, am_cc, am_nl, am_ok, am_pop, am_rt, am_set, cC_12, cC_34, cC_36, cC_37, cC_45, cC_50, cC_72, rR_1301, rR_1303, rR_1304, rR_1315, rR_1316, rR_1321, kX12_fails, kX12_fails_0, kX12_fails_1, am_run_z, c0, h2, h3, h4, h5, h6, ↓s_MisOff i σ _ (show i < 10 by omega), bI_z, c1, c2, q, e', not_true_eq_false, not_false_eq_true]
    exact key 8 (if_pos e)
  · have e' : (nI i = nI h) = False := eq_false (fun y => e ((nI_eq (by omega) (by omega)).mp y))
    rw [hX12_fails 21]
    simp only [am_run_s, bt, lf, am_in, am_ar, am_fit, am_ld, am_ct, Nat.reduceLT, Nat.reduceEqDiff, reduceIte, Nat.reduceAdd, Nat.reduceLeDiff, Nat.reduceSub, Bool.false_eq_true, if_true, if_false, ite_true, ite_false, List.length_cons, List.length_nil, Nat.zero_add, Nat.add_zero, and_true, true_and, true_or, or_true, and_self, Nat.le_refl, Nat.lt_irrefl, gI_sI, gL_sL, gQ_sQ, gI_sJ, gI_sL, gI_sQ, gL_sI, gL_sQ, gL_sJ, gQ_sI, gQ_sL, gQ_sJ, gN_sI, gN_sL, gN_sQ, gN_sJ, E_b2_0, E_bald_0, E_bast_0, E_cV_a, E_cV_b, E_c_0, E_dup2_0, E_dup_0, E_dup_1, E_getI_0, E_getR_0, E_iald_0, E_iast_0, E_inc_a, E_inc_b, E_je_0, E_jl_0, E_jmp_0, E_jz_0, E_kk, E_ldI_a, E_ldI_b, E_ldR_a, E_ldR_b, E_putI_0, E_rV_0, E_stI_0, aL_34, aL_36, aL_37, aL_45, aL_50, aL_72, am_cc, am_nl, am_ok, am_pop, am_rt, am_set, cC_12, cC_34, cC_36, cC_37, cC_45, cC_50, cC_72, rR_1301, rR_1303, rR_1304, rR_1315, rR_1316, rR_1321, kX12_fails, kX12_fails_0, kX12_fails_1, am_run_z, c0, h2, h3, h4, h5, h6, ↓s_MisOff i σ _ (show i < 10 by omega), bI_z, c1, c2, q, e', not_true_eq_false, not_false_eq_true]
    exact key 1 (if_neg e)
