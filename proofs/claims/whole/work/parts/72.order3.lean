/-! ===== order: the reference, the call ===== -/
def PMO (f : Nat) : Bool := PHM f || Nat.beq f 74 || Nat.beq f 59 || Nat.beq f 1361
theorem PMO_H (f : Nat) (h : PMO f = false) : PHM f = false := by
  unfold PMO at h
  simp only [Bool.or_eq_false_iff] at h
  exact h.1.1.1
def POB (f : Nat) : Bool := POX f || PMO f
theorem POB_X (f : Nat) (h : POB f = false) : POX f = false := by
  unfold POB at h
  simp only [Bool.or_eq_false_iff] at h
  exact h.1
theorem POB_M (f : Nat) (h : POB f = false) : PMO f = false := by
  unfold POB at h
  simp only [Bool.or_eq_false_iff] at h
  exact h.2
theorem POB_H (f : Nat) (h : POB f = false) : PHM f = false := PMO_H f (POB_M f h)
def LFM (σ : HS) (lv : Nat → Bool) (n : Nat) : Prop := ∀ j, j < n → gI σ 74 j = bb (!lv j)
theorem DM.fx {σ σ' : HS} {d : DC} {P : Nat → Bool} (h : DM σ d) (f : frm P σ σ') (h1 : P 1314 = false) (h3 : P 40 = false) (h4 : P 38 = false) (h5 : P 41 = false) (h6 : P 43 = false) (h7 : P 1359 = false) : DM σ' d := by
  refine ⟨by rw [f.gi h1]; exact h.1, fun k hk => ?_, by rw [f.gi h7]; exact h.2.2⟩
  rw [f.gi h3, f.gi h4, f.gi h5, f.gi h6]
  exact h.2.1 k hk
/-- whether it fits, of a state that differs in what the desk notes alone -/
theorem c_fitsO {kk : Nat} {σ0 : HS} (h : Inv kk σ0) {σ : HS} (f0 : frm POB σ0 σ) {H : Nat → Bool} (hH : HM σ H (gN σ0 10)) {wd : Nat} (hw : wd < gN σ0 10) (h0 : H wd = false) {Q : PO} (hQ : Q (some (.inl (bb (fitP σ0 H wd)))) σ) : MM 201 [.inr (.inr (some (12, 0))), .inl (nI wd)] σ Q := by
  obtain ⟨ok, -, hm⟩ := h.dd
  obtain ⟨-, -, hw24⟩ := h.wc
  have hm1 : DM σ (dOf σ0) := hm.fx f0 rfl rfl rfl rfl rfl rfl
  have h3 : vp_in (nI wd) 24 := vp_in_nI (by omega) (by omega)
  have h4 : (nI wd).toNatClampNeg = wd := nI_clamp (by omega)
  have hd : gI σ 44 wd = gI σ0 44 wd := f0.gi rfl
  rw [eX12_fits 18]
  simp only [am_run_s, bt, lf, am_in, am_ar, am_fit, am_ld, am_ct, Nat.reduceLT, Nat.reduceEqDiff, reduceIte, Nat.reduceAdd, Nat.reduceLeDiff, Nat.reduceSub, Bool.false_eq_true, if_true, if_false, ite_true, ite_false, List.length_cons, List.length_nil, Nat.zero_add, Nat.add_zero, and_true, true_and, true_or, or_true, and_self, Nat.le_refl, Nat.lt_irrefl, gI_sI, gL_sL, gQ_sQ, gI_sJ, gI_sL, gI_sQ, gL_sI, gL_sQ, gL_sJ, gQ_sI, gQ_sL, gQ_sJ, gN_sI, gN_sL, gN_sQ, gN_sJ, E_cV_a, E_cV_b, E_c_0, E_getR_0, E_iald_0, E_jg_0, E_jmp_0, E_jn_0, E_kk, E_ldI_a, E_ldI_b, E_ldR_a, E_ldR_b, E_rZ_0, E_stI_0, aL_44, am_cc, am_nl, am_ok, am_pop, am_rt, am_set, cC_12, cC_44, rR_1311, kX12_fits]
  refine c_worstOf hm1 ok hH hw h0 ?_
  unfold fitP at hQ
  rcases wst_nn (dOf σ0) H wd with e | e
  · rw [decide_eq_false (fun z => z.1 e)] at hQ
    rw [e]
    have n1 : ((-1 : Int32) < 0) = True := by decide
    simp only [am_run_s, bt, lf, am_in, am_ar, am_fit, am_ld, am_ct, Nat.reduceLT, Nat.reduceEqDiff, reduceIte, Nat.reduceAdd, Nat.reduceLeDiff, Nat.reduceSub, Bool.false_eq_true, if_true, if_false, ite_true, ite_false, List.length_cons, List.length_nil, Nat.zero_add, Nat.add_zero, and_true, true_and, true_or, or_true, and_self, Nat.le_refl, Nat.lt_irrefl, gI_sI, gL_sL, gQ_sQ, gI_sJ, gI_sL, gI_sQ, gL_sI, gL_sQ, gL_sJ, gQ_sI, gQ_sL, gQ_sJ, gN_sI, gN_sL, gN_sQ, gN_sJ, E_cV_a, E_cV_b, E_c_0, E_getR_0, E_iald_0, E_jg_0, E_jmp_0, E_jn_0, E_kk, E_ldI_a, E_ldI_b, E_ldR_a, E_ldR_b, E_rZ_0, E_stI_0, aL_44, am_cc, am_nl, am_ok, am_pop, am_rt, am_set, cC_12, cC_44, rR_1311, kX12_fits, n1, am_b0]
    exact hQ
  · have ne : ¬ wst (dOf σ0) H wd = -1 := by
      intro z
      rw [z] at e
      exact e (by decide)
    by_cases q : gI σ0 44 wd < wst (dOf σ0) H wd
    · rw [decide_eq_false (fun z => z.2 q)] at hQ
      simp only [am_run_s, bt, lf, am_in, am_ar, am_fit, am_ld, am_ct, Nat.reduceLT, Nat.reduceEqDiff, reduceIte, Nat.reduceAdd, Nat.reduceLeDiff, Nat.reduceSub, Bool.false_eq_true, if_true, if_false, ite_true, ite_false, List.length_cons, List.length_nil, Nat.zero_add, Nat.add_zero, and_true, true_and, true_or, or_true, and_self, Nat.le_refl, Nat.lt_irrefl, gI_sI, gL_sL, gQ_sQ, gI_sJ, gI_sL, gI_sQ, gL_sI, gL_sQ, gL_sJ, gQ_sI, gQ_sL, gQ_sJ, gN_sI, gN_sL, gN_sQ, gN_sJ, E_cV_a, E_cV_b, E_c_0, E_getR_0, E_iald_0, E_jg_0, E_jmp_0, E_jn_0, E_kk, E_ldI_a, E_ldI_b, E_ldR_a, E_ldR_b, E_rZ_0, E_stI_0, aL_44, am_cc, am_nl, am_ok, am_pop, am_rt, am_set, cC_12, cC_44, rR_1311, kX12_fits, e, h3, h4, hd, q, am_b0]
      exact hQ
    · rw [decide_eq_true ⟨ne, q⟩] at hQ
      simp only [am_run_s, bt, lf, am_in, am_ar, am_fit, am_ld, am_ct, Nat.reduceLT, Nat.reduceEqDiff, reduceIte, Nat.reduceAdd, Nat.reduceLeDiff, Nat.reduceSub, Bool.false_eq_true, if_true, if_false, ite_true, ite_false, List.length_cons, List.length_nil, Nat.zero_add, Nat.add_zero, and_true, true_and, true_or, or_true, and_self, Nat.le_refl, Nat.lt_irrefl, gI_sI, gL_sL, gQ_sQ, gI_sJ, gI_sL, gI_sQ, gL_sI, gL_sQ, gL_sJ, gQ_sI, gQ_sL, gQ_sJ, gN_sI, gN_sL, gN_sQ, gN_sJ, E_cV_a, E_cV_b, E_c_0, E_getR_0, E_iald_0, E_jg_0, E_jmp_0, E_jn_0, E_kk, E_ldI_a, E_ldI_b, E_ldR_a, E_ldR_b, E_rZ_0, E_stI_0, aL_44, am_cc, am_nl, am_ok, am_pop, am_rt, am_set, cC_12, cC_44, rR_1311, kX12_fits, e, h3, h4, hd, q, am_b1]
      exact hQ
theorem l_ordM3 {kk : Nat} {σ0 : HS} (h : Inv kk σ0) {w : Nat} (hw : w < gN σ0 10) {lv : Nat → Bool} {Q : PO} {p fo : Int32} : ∀ (r i : Nat) (σ : HS), i + r = gN σ0 10 → frm POB σ0 σ → LFM σ lv (gN σ0 10) → (∀ j, j < i → gI σ 73 j = bb (hLf lv w j)) → (∀ σ', frm PHM σ σ' → HM σ' (hLf lv w) (gN σ0 10) → am_T (kX12_order S1) MM Q 113 [some (.inr (.inr (some (12, 0)))), some (.inl p), some (.inl fo), some (.inl (nI w)), some (.inl (nI (gN σ0 10)))] [] σ' 0 0) →
    am_T (kX12_order S1) MM Q 70 [some (.inr (.inr (some (12, 0)))), some (.inl p), some (.inl fo), some (.inl (nI w)), some (.inl (nI i))] [] σ 0 0 := by
  obtain ⟨hw1, hw2, h24⟩ := h.wc
  intro r
  induction r with
  | zero =>
    intro i σ hi f0 hl hH hX
    have e : i = gN σ0 10 := by omega
    subst e
    rw [hX12_order 3]
    have h0 : ¬ nI (gN σ0 10) < nI (gN σ0 10) := nI_nlt (by omega) (by omega)
    have c1 : gI σ 1314 0 = nI (gN σ0 10) := by rw [f0.gi rfl]; exact hw2
    simp only [am_run_s, bt, lf, am_in, am_ar, am_fit, am_ld, am_ct, Nat.reduceLT, Nat.reduceEqDiff, reduceIte, Nat.reduceAdd, Nat.reduceLeDiff, Nat.reduceSub, Bool.false_eq_true, if_true, if_false, ite_true, ite_false, List.length_cons, List.length_nil, Nat.zero_add, Nat.add_zero, and_true, true_and, true_or, or_true, and_self, Nat.le_refl, Nat.lt_irrefl, gI_sI, gL_sL, gQ_sQ, gI_sJ, gI_sL, gI_sQ, gL_sI, gL_sQ, gL_sJ, gQ_sI, gQ_sL, gQ_sJ, gN_sI, gN_sL, gN_sQ, gN_sJ, E_b2_0, E_bald_0, E_bast_0, E_cV_a, E_cV_b, E_c_0, E_getI_0, E_getR_0, E_iast_0, E_inc_a, E_inc_b, E_je_0, E_jl_0, E_jmp_0, E_jn_0, E_jz_0, E_kk, E_ldI_a, E_ldI_b, E_ldR_a, E_ldR_b, E_putZ_0, E_rI_0, E_stI_0, aL_59, aL_73, aL_74, am_cc, am_nl, am_ok, am_pop, am_rt, am_set, cC_12, cC_59, cC_73, cC_74, rR_1358, rR_1360, rR_1362, kX12_order, kX12_order_0, kX12_order_1, am_run_z, c1, h0]
    exact hX σ frm.rf hH
  | succ r ih =>
    intro i σ hi f0 hl hH hX
    have hk : i < gN σ0 10 := by omega
    have c1 : gI σ 1314 0 = nI (gN σ0 10) := by rw [f0.gi rfl]; exact hw2
    have h2 := nI_t hk (by omega)
    have h3 : vp_in (nI i) 24 := vp_in_nI (by omega) (by omega)
    have h4 : (nI i).toNatClampNeg = i := nI_clamp (by omega)
    have hb := hl i hk
    have f1 : frm PHM σ (sI σ 73 i (bb (hLf lv w i))) := frm.rf.si rfl
    have go : am_T (kX12_order S1) MM Q 70 [some (.inr (.inr (some (12, 0)))), some (.inl p), some (.inl fo), some (.inl (nI w)), some (.inl (nI (i + 1)))] [] (sI σ 73 i (bb (hLf lv w i))) 0 0 := by
      refine ih (i + 1) _ (by omega) (f0.si rfl) (fun j hj => by rw [f1.gi rfl]; exact hl j hj) (fun j hj => ?_) (fun σ' f2 m2 => hX σ' (f1.tr f2) m2)
      simp only [gI_sI, gL_sL, gQ_sQ, gI_sJ, gI_sL, gI_sQ, gL_sI, gL_sQ, gL_sJ, gQ_sI, gQ_sL, gQ_sJ, gN_sI, gN_sL, gN_sQ, gN_sJ, Nat.reduceLT, Nat.reduceEqDiff, reduceIte, Nat.reduceAdd, Nat.reduceLeDiff, Nat.reduceSub, Bool.false_eq_true, if_true, if_false, ite_true, ite_false, List.length_cons, List.length_nil, Nat.zero_add, Nat.add_zero, and_true, true_and, true_or, or_true, and_self, Nat.le_refl, Nat.lt_irrefl]
      by_cases e : j = i
      · rw [if_pos e, e]
      · rw [if_neg e]; exact hH j (by omega)
    rw [hX12_order 20]
    by_cases z : i = w
    · have z' : (nI i = nI w) = True := eq_true (by rw [z])
      have e1 : bb (hLf lv w i) = 0 := by rw [z, hLf_self]; rfl
      rw [e1] at go
      simp only [am_run_s, bt, lf, am_in, am_ar, am_fit, am_ld, am_ct, Nat.reduceLT, Nat.reduceEqDiff, reduceIte, Nat.reduceAdd, Nat.reduceLeDiff, Nat.reduceSub, Bool.false_eq_true, if_true, if_false, ite_true, ite_false, List.length_cons, List.length_nil, Nat.zero_add, Nat.add_zero, and_true, true_and, true_or, or_true, and_self, Nat.le_refl, Nat.lt_irrefl, gI_sI, gL_sL, gQ_sQ, gI_sJ, gI_sL, gI_sQ, gL_sI, gL_sQ, gL_sJ, gQ_sI, gQ_sL, gQ_sJ, gN_sI, gN_sL, gN_sQ, gN_sJ, E_b2_0, E_bald_0, E_bast_0, E_cV_a, E_cV_b, E_c_0, E_getI_0, E_getR_0, E_iast_0, E_inc_a, E_inc_b, E_je_0, E_jl_0, E_jmp_0, E_jn_0, E_jz_0, E_kk, E_ldI_a, E_ldI_b, E_ldR_a, E_ldR_b, E_putZ_0, E_rI_0, E_stI_0, aL_59, aL_73, aL_74, am_cc, am_nl, am_ok, am_pop, am_rt, am_set, cC_12, cC_59, cC_73, cC_74, rR_1358, rR_1360, rR_1362, kX12_order, kX12_order_0, kX12_order_1, c1, h2, h3, h4, z', am_b0, nI_1]
      exact go
    have z' : (nI i = nI w) = False := eq_false (fun y => z ((nI_eq (by omega) (by omega)).mp y))
    cases e : lv i with
    | false =>
      have e0 : (bb (!lv i) = 0) = False := by rw [e]; decide
      have e1 : bb (hLf lv w i) = 0 := by unfold hLf; rw [e]; rfl
      rw [e1] at go
      simp only [am_run_s, bt, lf, am_in, am_ar, am_fit, am_ld, am_ct, Nat.reduceLT, Nat.reduceEqDiff, reduceIte, Nat.reduceAdd, Nat.reduceLeDiff, Nat.reduceSub, Bool.false_eq_true, if_true, if_false, ite_true, ite_false, List.length_cons, List.length_nil, Nat.zero_add, Nat.add_zero, and_true, true_and, true_or, or_true, and_self, Nat.le_refl, Nat.lt_irrefl, gI_sI, gL_sL, gQ_sQ, gI_sJ, gI_sL, gI_sQ, gL_sI, gL_sQ, gL_sJ, gQ_sI, gQ_sL, gQ_sJ, gN_sI, gN_sL, gN_sQ, gN_sJ, E_b2_0, E_bald_0, E_bast_0, E_cV_a, E_cV_b, E_c_0, E_getI_0, E_getR_0, E_iast_0, E_inc_a, E_inc_b, E_je_0, E_jl_0, E_jmp_0, E_jn_0, E_jz_0, E_kk, E_ldI_a, E_ldI_b, E_ldR_a, E_ldR_b, E_putZ_0, E_rI_0, E_stI_0, aL_59, aL_73, aL_74, am_cc, am_nl, am_ok, am_pop, am_rt, am_set, cC_12, cC_59, cC_73, cC_74, rR_1358, rR_1360, rR_1362, kX12_order, kX12_order_0, kX12_order_1, c1, h2, h3, h4, z', hb, e0, am_b0, nI_1]
      exact go
    | true =>
      have e0 : (bb (!lv i) = 0) = True := by rw [e]; decide
      have e1 : bb (hLf lv w i) = 1 := by unfold hLf; rw [e, decide_eq_true z]; rfl
      rw [e1] at go
      simp only [am_run_s, bt, lf, am_in, am_ar, am_fit, am_ld, am_ct, Nat.reduceLT, Nat.reduceEqDiff, reduceIte, Nat.reduceAdd, Nat.reduceLeDiff, Nat.reduceSub, Bool.false_eq_true, if_true, if_false, ite_true, ite_false, List.length_cons, List.length_nil, Nat.zero_add, Nat.add_zero, and_true, true_and, true_or, or_true, and_self, Nat.le_refl, Nat.lt_irrefl, gI_sI, gL_sL, gQ_sQ, gI_sJ, gI_sL, gI_sQ, gL_sI, gL_sQ, gL_sJ, gQ_sI, gQ_sL, gQ_sJ, gN_sI, gN_sL, gN_sQ, gN_sJ, E_b2_0, E_bald_0, E_bast_0, E_cV_a, E_cV_b, E_c_0, E_getI_0, E_getR_0, E_iast_0, E_inc_a, E_inc_b, E_je_0, E_jl_0, E_jmp_0, E_jn_0, E_jz_0, E_kk, E_ldI_a, E_ldI_b, E_ldR_a, E_ldR_b, E_putZ_0, E_rI_0, E_stI_0, aL_59, aL_73, aL_74, am_cc, am_nl, am_ok, am_pop, am_rt, am_set, cC_12, cC_59, cC_73, cC_74, rR_1358, rR_1360, rR_1362, kX12_order, kX12_order_0, kX12_order_1, c1, h2, h3, h4, z', hb, e0, am_b1, nI_1]
      exact go
theorem l_ordM2 {kk : Nat} {σ0 : HS} (h : Inv kk σ0) {lv : Nat → Bool} {Q : PO} {p : Int32} : ∀ (r i : Nat) (σ : HS) (o : Option AV), i + r = gN σ0 10 → frm POB σ0 σ → LFM σ lv (gN σ0 10) → (∀ σ' i' o', frm PHM σ σ' → am_T (kX12_order S1) MM Q 129 [some (.inr (.inr (some (12, 0)))), some (.inl p), some (.inl (onat (fnd σ0 lv r i))), some (.inl i'), o'] [] σ' 0 0) →
    am_T (kX12_order S1) MM Q 43 [some (.inr (.inr (some (12, 0)))), some (.inl p), some (.inl (-1)), some (.inl (nI i)), o] [] σ 0 0 := by
  obtain ⟨hw1, hw2, h24⟩ := h.wc
  have nm : ((-1 : Int32) < 0) = True := by decide
  intro r
  induction r with
  | zero =>
    intro i σ o hi f0 hl hX
    have e : i = gN σ0 10 := by omega
    subst e
    rw [hX12_order 3]
    have h0 : ¬ nI (gN σ0 10) < nI (gN σ0 10) := nI_nlt (by omega) (by omega)
    have c1 : gI σ 1314 0 = nI (gN σ0 10) := by rw [f0.gi rfl]; exact hw2
    simp only [am_run_s, bt, lf, am_in, am_ar, am_fit, am_ld, am_ct, Nat.reduceLT, Nat.reduceEqDiff, reduceIte, Nat.reduceAdd, Nat.reduceLeDiff, Nat.reduceSub, Bool.false_eq_true, if_true, if_false, ite_true, ite_false, List.length_cons, List.length_nil, Nat.zero_add, Nat.add_zero, and_true, true_and, true_or, or_true, and_self, Nat.le_refl, Nat.lt_irrefl, gI_sI, gL_sL, gQ_sQ, gI_sJ, gI_sL, gI_sQ, gL_sI, gL_sQ, gL_sJ, gQ_sI, gQ_sL, gQ_sJ, gN_sI, gN_sL, gN_sQ, gN_sJ, E_b2_0, E_bald_0, E_bast_0, E_cV_a, E_cV_b, E_c_0, E_getI_0, E_getR_0, E_iast_0, E_inc_a, E_inc_b, E_je_0, E_jl_0, E_jmp_0, E_jn_0, E_jz_0, E_kk, E_ldI_a, E_ldI_b, E_ldR_a, E_ldR_b, E_putZ_0, E_rI_0, E_stI_0, aL_59, aL_73, aL_74, am_cc, am_nl, am_ok, am_pop, am_rt, am_set, cC_12, cC_59, cC_73, cC_74, rR_1358, rR_1360, rR_1362, kX12_order, kX12_order_0, kX12_order_1, am_run_z, c1, h0]
    exact hX σ _ o frm.rf
  | succ r ih =>
    intro i σ o hi f0 hl hX
    have hk : i < gN σ0 10 := by omega
    have c1 : gI σ 1314 0 = nI (gN σ0 10) := by rw [f0.gi rfl]; exact hw2
    have h2 := nI_t hk (by omega)
    have h3 : vp_in (nI i) 24 := vp_in_nI (by omega) (by omega)
    have h4 : (nI i).toNatClampNeg = i := nI_clamp (by omega)
    have hb := hl i hk
    rw [fnd_s] at hX
    cases e : lv i with
    | false =>
      have e0 : (bb (!lv i) = 0) = False := by rw [e]; decide
      rw [if_neg (fun z => by rw [e] at z; exact absurd z.1 (by decide))] at hX
      rw [hX12_order 14]
      simp only [am_run_s, bt, lf, am_in, am_ar, am_fit, am_ld, am_ct, Nat.reduceLT, Nat.reduceEqDiff, reduceIte, Nat.reduceAdd, Nat.reduceLeDiff, Nat.reduceSub, Bool.false_eq_true, if_true, if_false, ite_true, ite_false, List.length_cons, List.length_nil, Nat.zero_add, Nat.add_zero, and_true, true_and, true_or, or_true, and_self, Nat.le_refl, Nat.lt_irrefl, gI_sI, gL_sL, gQ_sQ, gI_sJ, gI_sL, gI_sQ, gL_sI, gL_sQ, gL_sJ, gQ_sI, gQ_sL, gQ_sJ, gN_sI, gN_sL, gN_sQ, gN_sJ, E_b2_0, E_bald_0, E_bast_0, E_cV_a, E_cV_b, E_c_0, E_getI_0, E_getR_0, E_iast_0, E_inc_a, E_inc_b, E_je_0, E_jl_0, E_jmp_0, E_jn_0, E_jz_0, E_kk, E_ldI_a, E_ldI_b, E_ldR_a, E_ldR_b, E_putZ_0, E_rI_0, E_stI_0, aL_59, aL_73, aL_74, am_cc, am_nl, am_ok, am_pop, am_rt, am_set, cC_12, cC_59, cC_73, cC_74, rR_1358, rR_1360, rR_1362, kX12_order, kX12_order_0, kX12_order_1, c1, h2, nm, h3, h4, hb, e0, nI_1]
      exact ih (i + 1) σ o (by omega) f0 hl hX
    | true =>
      have e0 : (bb (!lv i) = 0) = True := by rw [e]; decide
      rw [hX12_order 13]
      simp only [am_run_s, bt, lf, am_in, am_ar, am_fit, am_ld, am_ct, Nat.reduceLT, Nat.reduceEqDiff, reduceIte, Nat.reduceAdd, Nat.reduceLeDiff, Nat.reduceSub, Bool.false_eq_true, if_true, if_false, ite_true, ite_false, List.length_cons, List.length_nil, Nat.zero_add, Nat.add_zero, and_true, true_and, true_or, or_true, and_self, Nat.le_refl, Nat.lt_irrefl, gI_sI, gL_sL, gQ_sQ, gI_sJ, gI_sL, gI_sQ, gL_sI, gL_sQ, gL_sJ, gQ_sI, gQ_sL, gQ_sJ, gN_sI, gN_sL, gN_sQ, gN_sJ, E_b2_0, E_bald_0, E_bast_0, E_cV_a, E_cV_b, E_c_0, E_getI_0, E_getR_0, E_iast_0, E_inc_a, E_inc_b, E_je_0, E_jl_0, E_jmp_0, E_jn_0, E_jz_0, E_kk, E_ldI_a, E_ldI_b, E_ldR_a, E_ldR_b, E_putZ_0, E_rI_0, E_stI_0, aL_59, aL_73, aL_74, am_cc, am_nl, am_ok, am_pop, am_rt, am_set, cC_12, cC_59, cC_73, cC_74, rR_1358, rR_1360, rR_1362, kX12_order, kX12_order_0, kX12_order_1, c1, h2, nm, h3, h4, hb, e0]
      refine l_ordM3 h hk (gN σ0 10) 0 σ (by omega) f0 hl (fun _ z => absurd z (by omega)) (fun σ1 f1 m1 => ?_)
      have f01 : frm POB σ0 σ1 := f0.tr (f1.mo POB_H)
      have c11 : gI σ1 1314 0 = nI (gN σ0 10) := by rw [f01.gi rfl]; exact hw2
      rw [hX12_order 7]
      simp only [am_run_s, bt, lf, am_in, am_ar, am_fit, am_ld, am_ct, Nat.reduceLT, Nat.reduceEqDiff, reduceIte, Nat.reduceAdd, Nat.reduceLeDiff, Nat.reduceSub, Bool.false_eq_true, if_true, if_false, ite_true, ite_false, List.length_cons, List.length_nil, Nat.zero_add, Nat.add_zero, and_true, true_and, true_or, or_true, and_self, Nat.le_refl, Nat.lt_irrefl, gI_sI, gL_sL, gQ_sQ, gI_sJ, gI_sL, gI_sQ, gL_sI, gL_sQ, gL_sJ, gQ_sI, gQ_sL, gQ_sJ, gN_sI, gN_sL, gN_sQ, gN_sJ, E_b2_0, E_bald_0, E_bast_0, E_cV_a, E_cV_b, E_c_0, E_getI_0, E_getR_0, E_iast_0, E_inc_a, E_inc_b, E_je_0, E_jl_0, E_jmp_0, E_jn_0, E_jz_0, E_kk, E_ldI_a, E_ldI_b, E_ldR_a, E_ldR_b, E_putZ_0, E_rI_0, E_stI_0, aL_59, aL_73, aL_74, am_cc, am_nl, am_ok, am_pop, am_rt, am_set, cC_12, cC_59, cC_73, cC_74, rR_1358, rR_1360, rR_1362, kX12_order, kX12_order_0, kX12_order_1, am_run_z]
      refine c_fitsO h f01 m1 hk (hLf_self lv i) ?_
      cases e1 : fitP σ0 (hLf lv i) i with
      | true =>
        rw [if_pos ⟨e, e1⟩] at hX
        have e2 : (bb true = 0) = False := by decide
        have hp := nI_f (j := i) (by omega)
        simp only [am_run_s, bt, lf, am_in, am_ar, am_fit, am_ld, am_ct, Nat.reduceLT, Nat.reduceEqDiff, reduceIte, Nat.reduceAdd, Nat.reduceLeDiff, Nat.reduceSub, Bool.false_eq_true, if_true, if_false, ite_true, ite_false, List.length_cons, List.length_nil, Nat.zero_add, Nat.add_zero, and_true, true_and, true_or, or_true, and_self, Nat.le_refl, Nat.lt_irrefl, gI_sI, gL_sL, gQ_sQ, gI_sJ, gI_sL, gI_sQ, gL_sI, gL_sQ, gL_sJ, gQ_sI, gQ_sL, gQ_sJ, gN_sI, gN_sL, gN_sQ, gN_sJ, E_b2_0, E_bald_0, E_bast_0, E_cV_a, E_cV_b, E_c_0, E_getI_0, E_getR_0, E_iast_0, E_inc_a, E_inc_b, E_je_0, E_jl_0, E_jmp_0, E_jn_0, E_jz_0, E_kk, E_ldI_a, E_ldI_b, E_ldR_a, E_ldR_b, E_putZ_0, E_rI_0, E_stI_0, aL_59, aL_73, aL_74, am_cc, am_nl, am_ok, am_pop, am_rt, am_set, cC_12, cC_59, cC_73, cC_74, rR_1358, rR_1360, rR_1362, kX12_order, kX12_order_0, kX12_order_1, am_run_z, e2, nI_1]
        by_cases z : nI (i + 1) < nI (gN σ0 10)
        · rw [hX12_order 5]
          simp only [am_run_s, bt, lf, am_in, am_ar, am_fit, am_ld, am_ct, Nat.reduceLT, Nat.reduceEqDiff, reduceIte, Nat.reduceAdd, Nat.reduceLeDiff, Nat.reduceSub, Bool.false_eq_true, if_true, if_false, ite_true, ite_false, List.length_cons, List.length_nil, Nat.zero_add, Nat.add_zero, and_true, true_and, true_or, or_true, and_self, Nat.le_refl, Nat.lt_irrefl, gI_sI, gL_sL, gQ_sQ, gI_sJ, gI_sL, gI_sQ, gL_sI, gL_sQ, gL_sJ, gQ_sI, gQ_sL, gQ_sJ, gN_sI, gN_sL, gN_sQ, gN_sJ, E_b2_0, E_bald_0, E_bast_0, E_cV_a, E_cV_b, E_c_0, E_getI_0, E_getR_0, E_iast_0, E_inc_a, E_inc_b, E_je_0, E_jl_0, E_jmp_0, E_jn_0, E_jz_0, E_kk, E_ldI_a, E_ldI_b, E_ldR_a, E_ldR_b, E_putZ_0, E_rI_0, E_stI_0, aL_59, aL_73, aL_74, am_cc, am_nl, am_ok, am_pop, am_rt, am_set, cC_12, cC_59, cC_73, cC_74, rR_1358, rR_1360, rR_1362, kX12_order, kX12_order_0, kX12_order_1, am_run_z, c11, z, hp]
          exact hX σ1 _ _ f1
        · rw [hX12_order 3]
          simp only [am_run_s, bt, lf, am_in, am_ar, am_fit, am_ld, am_ct, Nat.reduceLT, Nat.reduceEqDiff, reduceIte, Nat.reduceAdd, Nat.reduceLeDiff, Nat.reduceSub, Bool.false_eq_true, if_true, if_false, ite_true, ite_false, List.length_cons, List.length_nil, Nat.zero_add, Nat.add_zero, and_true, true_and, true_or, or_true, and_self, Nat.le_refl, Nat.lt_irrefl, gI_sI, gL_sL, gQ_sQ, gI_sJ, gI_sL, gI_sQ, gL_sI, gL_sQ, gL_sJ, gQ_sI, gQ_sL, gQ_sJ, gN_sI, gN_sL, gN_sQ, gN_sJ, E_b2_0, E_bald_0, E_bast_0, E_cV_a, E_cV_b, E_c_0, E_getI_0, E_getR_0, E_iast_0, E_inc_a, E_inc_b, E_je_0, E_jl_0, E_jmp_0, E_jn_0, E_jz_0, E_kk, E_ldI_a, E_ldI_b, E_ldR_a, E_ldR_b, E_putZ_0, E_rI_0, E_stI_0, aL_59, aL_73, aL_74, am_cc, am_nl, am_ok, am_pop, am_rt, am_set, cC_12, cC_59, cC_73, cC_74, rR_1358, rR_1360, rR_1362, kX12_order, kX12_order_0, kX12_order_1, am_run_z, c11, z]
          exact hX σ1 _ _ f1
      | false =>
        rw [if_neg (fun z => by rw [e1] at z; exact absurd z.2 (by decide))] at hX
        have e2 : (bb false = 0) = True := by decide
        simp only [am_run_s, bt, lf, am_in, am_ar, am_fit, am_ld, am_ct, Nat.reduceLT, Nat.reduceEqDiff, reduceIte, Nat.reduceAdd, Nat.reduceLeDiff, Nat.reduceSub, Bool.false_eq_true, if_true, if_false, ite_true, ite_false, List.length_cons, List.length_nil, Nat.zero_add, Nat.add_zero, and_true, true_and, true_or, or_true, and_self, Nat.le_refl, Nat.lt_irrefl, gI_sI, gL_sL, gQ_sQ, gI_sJ, gI_sL, gI_sQ, gL_sI, gL_sQ, gL_sJ, gQ_sI, gQ_sL, gQ_sJ, gN_sI, gN_sL, gN_sQ, gN_sJ, E_b2_0, E_bald_0, E_bast_0, E_cV_a, E_cV_b, E_c_0, E_getI_0, E_getR_0, E_iast_0, E_inc_a, E_inc_b, E_je_0, E_jl_0, E_jmp_0, E_jn_0, E_jz_0, E_kk, E_ldI_a, E_ldI_b, E_ldR_a, E_ldR_b, E_putZ_0, E_rI_0, E_stI_0, aL_59, aL_73, aL_74, am_cc, am_nl, am_ok, am_pop, am_rt, am_set, cC_12, cC_59, cC_73, cC_74, rR_1358, rR_1360, rR_1362, kX12_order, kX12_order_0, kX12_order_1, am_run_z, e2, nI_1]
        exact ih (i + 1) σ1 _ (by omega) f01 (fun j hj => by rw [f1.gi rfl]; exact hl j hj) (fun σ' i' o' f2 => hX σ' i' o' (f1.tr f2))
theorem l_ordM1 {kk : Nat} {σ0 : HS} (h : Inv kk σ0) {Q : PO} : ∀ (p : Nat) (σ : HS) (lv : Nat → Bool) (pl : Nat → Int32) (o2 o3 o4 : Option AV), p ≤ gN σ0 10 → frm POB σ0 σ → LFM σ lv (gN σ0 10) → (∀ j, p ≤ j → j < gN σ0 10 → gI σ 59 j = pl j) → gI σ 1361 0 = 0 →
    (∀ σ', frm PMO σ σ' → ordP σ0 (gN σ0 10) p lv pl = none → gI σ' 1361 0 = 0 → Q (some (.inl 0)) σ') →
    (∀ σ' pl', frm PMO σ σ' → ordP σ0 (gN σ0 10) p lv pl = some pl' → gI σ' 1361 0 = 1 → (∀ j, j < gN σ0 10 → gI σ' 59 j = pl' j) → Q (some (.inl 1)) σ') →
    am_T (kX12_order S1) MM Q 35 [some (.inr (.inr (some (12, 0)))), some (.inl (nI p - 1)), o2, o3, o4] [] σ 0 0 := by
  obtain ⟨hw1, hw2, h24⟩ := h.wc
  intro p
  induction p with
  | zero =>
    intro σ lv pl o2 o3 o4 hp f0 hl hpl ho hN hS
    rw [hX12_order 8]
    have h0 : nI 0 - 1 < 0 := by decide
    simp only [am_run_s, bt, lf, am_in, am_ar, am_fit, am_ld, am_ct, Nat.reduceLT, Nat.reduceEqDiff, reduceIte, Nat.reduceAdd, Nat.reduceLeDiff, Nat.reduceSub, Bool.false_eq_true, if_true, if_false, ite_true, ite_false, List.length_cons, List.length_nil, Nat.zero_add, Nat.add_zero, and_true, true_and, true_or, or_true, and_self, Nat.le_refl, Nat.lt_irrefl, gI_sI, gL_sL, gQ_sQ, gI_sJ, gI_sL, gI_sQ, gL_sI, gL_sQ, gL_sJ, gQ_sI, gQ_sL, gQ_sJ, gN_sI, gN_sL, gN_sQ, gN_sJ, E_b2_0, E_bald_0, E_bast_0, E_cV_a, E_cV_b, E_c_0, E_getI_0, E_getR_0, E_iast_0, E_inc_a, E_inc_b, E_je_0, E_jl_0, E_jmp_0, E_jn_0, E_jz_0, E_kk, E_ldI_a, E_ldI_b, E_ldR_a, E_ldR_b, E_putZ_0, E_rI_0, E_stI_0, aL_59, aL_73, aL_74, am_cc, am_nl, am_ok, am_pop, am_rt, am_set, cC_12, cC_59, cC_73, cC_74, rR_1358, rR_1360, rR_1362, kX12_order, kX12_order_0, kX12_order_1, h0, am_b1]
    refine hS _ pl (frm.rf.si rfl) rfl ?_ (fun j hj => ?_)
    · simp only [gI_sI, gL_sL, gQ_sQ, gI_sJ, gI_sL, gI_sQ, gL_sI, gL_sQ, gL_sJ, gQ_sI, gQ_sL, gQ_sJ, gN_sI, gN_sL, gN_sQ, gN_sJ, Nat.reduceLT, Nat.reduceEqDiff, reduceIte, Nat.reduceAdd, Nat.reduceLeDiff, Nat.reduceSub, Bool.false_eq_true, if_true, if_false, ite_true, ite_false, List.length_cons, List.length_nil, Nat.zero_add, Nat.add_zero, and_true, true_and, true_or, or_true, and_self, Nat.le_refl, Nat.lt_irrefl]
    · simp only [gI_sI, gL_sL, gQ_sQ, gI_sJ, gI_sL, gI_sQ, gL_sI, gL_sQ, gL_sJ, gQ_sI, gQ_sL, gQ_sJ, gN_sI, gN_sL, gN_sQ, gN_sJ, Nat.reduceLT, Nat.reduceEqDiff, reduceIte, Nat.reduceAdd, Nat.reduceLeDiff, Nat.reduceSub, Bool.false_eq_true, if_true, if_false, ite_true, ite_false, List.length_cons, List.length_nil, Nat.zero_add, Nat.add_zero, and_true, true_and, true_or, or_true, and_self, Nat.le_refl, Nat.lt_irrefl]; exact hpl j (Nat.zero_le _) hj
  | succ p ih =>
    intro σ lv pl o2 o3 o4 hp f0 hl hpl ho hN hS
    rw [hX12_order 6, nI_m1]
    have h0 := nI_f (j := p) (by omega)
    simp only [am_run_s, bt, lf, am_in, am_ar, am_fit, am_ld, am_ct, Nat.reduceLT, Nat.reduceEqDiff, reduceIte, Nat.reduceAdd, Nat.reduceLeDiff, Nat.reduceSub, Bool.false_eq_true, if_true, if_false, ite_true, ite_false, List.length_cons, List.length_nil, Nat.zero_add, Nat.add_zero, and_true, true_and, true_or, or_true, and_self, Nat.le_refl, Nat.lt_irrefl, gI_sI, gL_sL, gQ_sQ, gI_sJ, gI_sL, gI_sQ, gL_sI, gL_sQ, gL_sJ, gQ_sI, gQ_sL, gQ_sJ, gN_sI, gN_sL, gN_sQ, gN_sJ, E_b2_0, E_bald_0, E_bast_0, E_cV_a, E_cV_b, E_c_0, E_getI_0, E_getR_0, E_iast_0, E_inc_a, E_inc_b, E_je_0, E_jl_0, E_jmp_0, E_jn_0, E_jz_0, E_kk, E_ldI_a, E_ldI_b, E_ldR_a, E_ldR_b, E_putZ_0, E_rI_0, E_stI_0, aL_59, aL_73, aL_74, am_cc, am_nl, am_ok, am_pop, am_rt, am_set, cC_12, cC_59, cC_73, cC_74, rR_1358, rR_1360, rR_1362, kX12_order, kX12_order_0, kX12_order_1, h0]
    refine l_ordM2 h (gN σ0 10) 0 σ _ (by omega) f0 hl (fun σ1 i' o' f1 => ?_)
    have f01 : frm POB σ0 σ1 := f0.tr (f1.mo POB_H)
    cases e : fnd σ0 lv (gN σ0 10) 0 with
    | none =>
      have nm : ((-1 : Int32) < 0) = True := by decide
      rw [hX12_order 4]
      simp only [am_run_s, bt, lf, am_in, am_ar, am_fit, am_ld, am_ct, Nat.reduceLT, Nat.reduceEqDiff, reduceIte, Nat.reduceAdd, Nat.reduceLeDiff, Nat.reduceSub, Bool.false_eq_true, if_true, if_false, ite_true, ite_false, List.length_cons, List.length_nil, Nat.zero_add, Nat.add_zero, and_true, true_and, true_or, or_true, and_self, Nat.le_refl, Nat.lt_irrefl, gI_sI, gL_sL, gQ_sQ, gI_sJ, gI_sL, gI_sQ, gL_sI, gL_sQ, gL_sJ, gQ_sI, gQ_sL, gQ_sJ, gN_sI, gN_sL, gN_sQ, gN_sJ, E_b2_0, E_bald_0, E_bast_0, E_cV_a, E_cV_b, E_c_0, E_getI_0, E_getR_0, E_iast_0, E_inc_a, E_inc_b, E_je_0, E_jl_0, E_jmp_0, E_jn_0, E_jz_0, E_kk, E_ldI_a, E_ldI_b, E_ldR_a, E_ldR_b, E_putZ_0, E_rI_0, E_stI_0, aL_59, aL_73, aL_74, am_cc, am_nl, am_ok, am_pop, am_rt, am_set, cC_12, cC_59, cC_73, cC_74, rR_1358, rR_1360, rR_1362, kX12_order, kX12_order_0, kX12_order_1, show onat none = -1 from rfl, nm]
      exact hN σ1 (f1.mo PMO_H) (ordP_n e) (by rw [f1.gi rfl]; exact ho)
    | some w =>
      rw [ordP_s e] at hN hS
      obtain ⟨w1, w2⟩ := fnd_in e
      have hww : w < gN σ0 10 := by omega
      have hp2 := nI_f (j := w) (by omega)
      have h3 : vp_in (nI p) 24 := vp_in_nI (by omega) (by omega)
      have h4 : (nI p).toNatClampNeg = p := nI_clamp (by omega)
      have h5 : vp_in (nI w) 24 := vp_in_nI (by omega) (by omega)
      have h6 : (nI w).toNatClampNeg = w := nI_clamp (by omega)
      have hm : nI p + -1 = nI p - 1 := by rw [Int32.sub_eq_add_neg]
      rw [hX12_order 15]
      simp only [am_run_s, bt, lf, am_in, am_ar, am_fit, am_ld, am_ct, Nat.reduceLT, Nat.reduceEqDiff, reduceIte, Nat.reduceAdd, Nat.reduceLeDiff, Nat.reduceSub, Bool.false_eq_true, if_true, if_false, ite_true, ite_false, List.length_cons, List.length_nil, Nat.zero_add, Nat.add_zero, and_true, true_and, true_or, or_true, and_self, Nat.le_refl, Nat.lt_irrefl, gI_sI, gL_sL, gQ_sQ, gI_sJ, gI_sL, gI_sQ, gL_sI, gL_sQ, gL_sJ, gQ_sI, gQ_sL, gQ_sJ, gN_sI, gN_sL, gN_sQ, gN_sJ, E_b2_0, E_bald_0, E_bast_0, E_cV_a, E_cV_b, E_c_0, E_getI_0, E_getR_0, E_iast_0, E_inc_a, E_inc_b, E_je_0, E_jl_0, E_jmp_0, E_jn_0, E_jz_0, E_kk, E_ldI_a, E_ldI_b, E_ldR_a, E_ldR_b, E_putZ_0, E_rI_0, E_stI_0, aL_59, aL_73, aL_74, am_cc, am_nl, am_ok, am_pop, am_rt, am_set, cC_12, cC_59, cC_73, cC_74, rR_1358, rR_1360, rR_1362, kX12_order, kX12_order_0, kX12_order_1, show onat (some w) = nI w from rfl, hp2, h3, h4, h5, h6, am_b1, hm]
      have g1 : frm PMO σ (sI (sI σ1 59 p (nI w)) 74 w 1) := ((f1.mo PMO_H).si rfl).si rfl
      refine ih _ (hLf lv w) (fun j => if j = p then nI w else pl j) _ _ _ (by omega) ((f01.si rfl).si rfl) (fun j hj => ?_) (fun j h1 h2 => ?_) ?_ (fun σ' f2 => hN σ' (g1.tr f2)) (fun σ' pl' f2 => hS σ' pl' (g1.tr f2))
      · simp only [gI_sI, gL_sL, gQ_sQ, gI_sJ, gI_sL, gI_sQ, gL_sI, gL_sQ, gL_sJ, gQ_sI, gQ_sL, gQ_sJ, gN_sI, gN_sL, gN_sQ, gN_sJ, Nat.reduceLT, Nat.reduceEqDiff, reduceIte, Nat.reduceAdd, Nat.reduceLeDiff, Nat.reduceSub, Bool.false_eq_true, if_true, if_false, ite_true, ite_false, List.length_cons, List.length_nil, Nat.zero_add, Nat.add_zero, and_true, true_and, true_or, or_true, and_self, Nat.le_refl, Nat.lt_irrefl]
        by_cases q : j = w
        · rw [if_pos q, q, hLf_self]; rfl
        · rw [if_neg q, f1.gi rfl, hl j hj]
          unfold hLf
          rw [decide_eq_true q, Bool.and_true]
      · simp only [gI_sI, gL_sL, gQ_sQ, gI_sJ, gI_sL, gI_sQ, gL_sI, gL_sQ, gL_sJ, gQ_sI, gQ_sL, gQ_sJ, gN_sI, gN_sL, gN_sQ, gN_sJ, Nat.reduceLT, Nat.reduceEqDiff, reduceIte, Nat.reduceAdd, Nat.reduceLeDiff, Nat.reduceSub, Bool.false_eq_true, if_true, if_false, ite_true, ite_false, List.length_cons, List.length_nil, Nat.zero_add, Nat.add_zero, and_true, true_and, true_or, or_true, and_self, Nat.le_refl, Nat.lt_irrefl]
        by_cases q : j = p
        · rw [if_pos q, if_pos q]
        · rw [if_neg q, if_neg q, f1.gi rfl]; exact hpl j (by omega) h2
      · simp only [gI_sI, gL_sL, gQ_sQ, gI_sJ, gI_sL, gI_sQ, gL_sI, gL_sQ, gL_sJ, gQ_sI, gQ_sL, gQ_sJ, gN_sI, gN_sL, gN_sQ, gN_sJ, Nat.reduceLT, Nat.reduceEqDiff, reduceIte, Nat.reduceAdd, Nat.reduceLeDiff, Nat.reduceSub, Bool.false_eq_true, if_true, if_false, ite_true, ite_false, List.length_cons, List.length_nil, Nat.zero_add, Nat.add_zero, and_true, true_and, true_or, or_true, and_self, Nat.le_refl, Nat.lt_irrefl]
        rw [f1.gi rfl]; exact ho
theorem l_ordM0 {kk : Nat} {σ0 : HS} (h : Inv kk σ0) {Q : PO} : ∀ (r i : Nat) (σ : HS), i + r = gN σ0 10 → frm POB σ0 σ → (∀ j, j < i → gI σ 74 j = 0) → gI σ 1361 0 = 0 →
    (∀ σ', frm PMO σ σ' → LFM σ' (fun _ => true) (gN σ0 10) → gI σ' 1361 0 = 0 → am_T (kX12_order S1) MM Q 35 [some (.inr (.inr (some (12, 0)))), some (.inl (nI (gN σ0 10) - 1)), none, none, none] [] σ' 0 0) →
    am_T (kX12_order S1) MM Q 7 [some (.inr (.inr (some (12, 0)))), some (.inl (nI i)), none, none, none] [] σ 0 0 := by
  obtain ⟨hw1, hw2, h24⟩ := h.wc
  intro r
  induction r with
  | zero =>
    intro i σ hi f0 hl ho hX
    have e : i = gN σ0 10 := by omega
    subst e
    rw [hX12_order 10]
    have h0 : ¬ nI (gN σ0 10) < nI (gN σ0 10) := nI_nlt (by omega) (by omega)
    have c1 : gI σ 1314 0 = nI (gN σ0 10) := by rw [f0.gi rfl]; exact hw2
    simp only [am_run_s, bt, lf, am_in, am_ar, am_fit, am_ld, am_ct, Nat.reduceLT, Nat.reduceEqDiff, reduceIte, Nat.reduceAdd, Nat.reduceLeDiff, Nat.reduceSub, Bool.false_eq_true, if_true, if_false, ite_true, ite_false, List.length_cons, List.length_nil, Nat.zero_add, Nat.add_zero, and_true, true_and, true_or, or_true, and_self, Nat.le_refl, Nat.lt_irrefl, gI_sI, gL_sL, gQ_sQ, gI_sJ, gI_sL, gI_sQ, gL_sI, gL_sQ, gL_sJ, gQ_sI, gQ_sL, gQ_sJ, gN_sI, gN_sL, gN_sQ, gN_sJ, E_b2_0, E_bald_0, E_bast_0, E_cV_a, E_cV_b, E_c_0, E_getI_0, E_getR_0, E_iast_0, E_inc_a, E_inc_b, E_je_0, E_jl_0, E_jmp_0, E_jn_0, E_jz_0, E_kk, E_ldI_a, E_ldI_b, E_ldR_a, E_ldR_b, E_putZ_0, E_rI_0, E_stI_0, aL_59, aL_73, aL_74, am_cc, am_nl, am_ok, am_pop, am_rt, am_set, cC_12, cC_59, cC_73, cC_74, rR_1358, rR_1360, rR_1362, kX12_order, kX12_order_0, kX12_order_1, c1, h0]
    exact hX σ frm.rf (fun j hj => hl j hj) ho
  | succ r ih =>
    intro i σ hi f0 hl ho hX
    have hk : i < gN σ0 10 := by omega
    have c1 : gI σ 1314 0 = nI (gN σ0 10) := by rw [f0.gi rfl]; exact hw2
    have h2 := nI_t hk (by omega)
    have h3 : vp_in (nI i) 24 := vp_in_nI (by omega) (by omega)
    have h4 : (nI i).toNatClampNeg = i := nI_clamp (by omega)
    rw [hX12_order 12]
    simp only [am_run_s, bt, lf, am_in, am_ar, am_fit, am_ld, am_ct, Nat.reduceLT, Nat.reduceEqDiff, reduceIte, Nat.reduceAdd, Nat.reduceLeDiff, Nat.reduceSub, Bool.false_eq_true, if_true, if_false, ite_true, ite_false, List.length_cons, List.length_nil, Nat.zero_add, Nat.add_zero, and_true, true_and, true_or, or_true, and_self, Nat.le_refl, Nat.lt_irrefl, gI_sI, gL_sL, gQ_sQ, gI_sJ, gI_sL, gI_sQ, gL_sI, gL_sQ, gL_sJ, gQ_sI, gQ_sL, gQ_sJ, gN_sI, gN_sL, gN_sQ, gN_sJ, E_b2_0, E_bald_0, E_bast_0, E_cV_a, E_cV_b, E_c_0, E_getI_0, E_getR_0, E_iast_0, E_inc_a, E_inc_b, E_je_0, E_jl_0, E_jmp_0, E_jn_0, E_jz_0, E_kk, E_ldI_a, E_ldI_b, E_ldR_a, E_ldR_b, E_putZ_0, E_rI_0, E_stI_0, aL_59, aL_73, aL_74, am_cc, am_nl, am_ok, am_pop, am_rt, am_set, cC_12, cC_59, cC_73, cC_74, rR_1358, rR_1360, rR_1362, kX12_order, kX12_order_0, kX12_order_1, c1, h2, h3, h4, am_b0, nI_1]
    have g1 : frm PMO σ (sI σ 74 i 0) := frm.rf.si rfl
    refine ih (i + 1) _ (by omega) (f0.si rfl) (fun j hj => ?_) ?_ (fun σ' f2 => hX σ' (g1.tr f2))
    · simp only [gI_sI, gL_sL, gQ_sQ, gI_sJ, gI_sL, gI_sQ, gL_sI, gL_sQ, gL_sJ, gQ_sI, gQ_sL, gQ_sJ, gN_sI, gN_sL, gN_sQ, gN_sJ, Nat.reduceLT, Nat.reduceEqDiff, reduceIte, Nat.reduceAdd, Nat.reduceLeDiff, Nat.reduceSub, Bool.false_eq_true, if_true, if_false, ite_true, ite_false, List.length_cons, List.length_nil, Nat.zero_add, Nat.add_zero, and_true, true_and, true_or, or_true, and_self, Nat.le_refl, Nat.lt_irrefl]
      by_cases q : j = i
      · rw [if_pos q]
      · rw [if_neg q]; exact hl j (by omega)
    · simp only [gI_sI, gL_sL, gQ_sQ, gI_sJ, gI_sL, gI_sQ, gL_sI, gL_sQ, gL_sJ, gQ_sI, gQ_sL, gQ_sJ, gN_sI, gN_sL, gN_sQ, gN_sJ, Nat.reduceLT, Nat.reduceEqDiff, reduceIte, Nat.reduceAdd, Nat.reduceLeDiff, Nat.reduceSub, Bool.false_eq_true, if_true, if_false, ite_true, ite_false, List.length_cons, List.length_nil, Nat.zero_add, Nat.add_zero, and_true, true_and, true_or, or_true, and_self, Nat.le_refl, Nat.lt_irrefl]; exact ho
theorem api_order : apiI 119 205 [] := by
  intro k σ hk h
  obtain ⟨hw1, hw2, h24⟩ := h.wc
  -- the reference's side, from a state that the class has left
  have side : ∀ (σ1 : HS) (Q : PO), frm POX σ σ1 → (∀ σ2, frm PMO σ1 σ2 → ordP σ (gN σ 10) (gN σ 10) (fun _ => true) (fun _ => 0) = none → gI σ2 1361 0 = 0 → Q (some (.inl 0)) σ2) → (∀ σ2 pl', frm PMO σ1 σ2 → ordP σ (gN σ 10) (gN σ 10) (fun _ => true) (fun _ => 0) = some pl' → gI σ2 1361 0 = 1 → (∀ j, j < gN σ 10 → gI σ2 59 j = pl' j) → Q (some (.inl 1)) σ2) → MM 205 [.inr (.inr (some (12, 0)))] σ1 Q := by
    intro σ1 Q f1 hN hS
    rw [eX12_order 6]
    simp only [am_run_s, bt, lf, am_in, am_ar, am_fit, am_ld, am_ct, Nat.reduceLT, Nat.reduceEqDiff, reduceIte, Nat.reduceAdd, Nat.reduceLeDiff, Nat.reduceSub, Bool.false_eq_true, if_true, if_false, ite_true, ite_false, List.length_cons, List.length_nil, Nat.zero_add, Nat.add_zero, and_true, true_and, true_or, or_true, and_self, Nat.le_refl, Nat.lt_irrefl, gI_sI, gL_sL, gQ_sQ, gI_sJ, gI_sL, gI_sQ, gL_sI, gL_sQ, gL_sJ, gQ_sI, gQ_sL, gQ_sJ, gN_sI, gN_sL, gN_sQ, gN_sJ, E_b2_0, E_bald_0, E_bast_0, E_cV_a, E_cV_b, E_c_0, E_getI_0, E_getR_0, E_iast_0, E_inc_a, E_inc_b, E_je_0, E_jl_0, E_jmp_0, E_jn_0, E_jz_0, E_kk, E_ldI_a, E_ldI_b, E_ldR_a, E_ldR_b, E_putZ_0, E_rI_0, E_stI_0, aL_59, aL_73, aL_74, am_cc, am_nl, am_ok, am_pop, am_rt, am_set, cC_12, cC_59, cC_73, cC_74, rR_1358, rR_1360, rR_1362, kX12_order, kX12_order_0, kX12_order_1, am_b0]
    have g0 : frm PMO σ1 (sI σ1 1361 0 0) := frm.rf.si rfl
    have b0 : frm POB σ (sI σ1 1361 0 0) := (f1.mo POB_X).si rfl
    refine l_ordM0 h (gN σ 10) 0 _ (by omega) b0 (fun _ z => absurd z (by omega)) (by simp only [gI_sI, gL_sL, gQ_sQ, gI_sJ, gI_sL, gI_sQ, gL_sI, gL_sQ, gL_sJ, gQ_sI, gQ_sL, gQ_sJ, gN_sI, gN_sL, gN_sQ, gN_sJ, Nat.reduceLT, Nat.reduceEqDiff, reduceIte, Nat.reduceAdd, Nat.reduceLeDiff, Nat.reduceSub, Bool.false_eq_true, if_true, if_false, ite_true, ite_false, List.length_cons, List.length_nil, Nat.zero_add, Nat.add_zero, and_true, true_and, true_or, or_true, and_self, Nat.le_refl, Nat.lt_irrefl]) (fun σ2 f2 l2 o2 => ?_)
    refine l_ordM1 h (gN σ 10) σ2 (fun _ => true) (fun _ => 0) _ _ _ (Nat.le_refl _) (b0.tr (f2.mo POB_M)) l2 (fun j h1 h2 => absurd h2 (by omega)) o2 (fun σ3 f3 => hN σ3 ((g0.tr f2).tr f3)) (fun σ3 pl' f3 => hS σ3 pl' ((g0.tr f2).tr f3))
  have fin : ∀ (σ1 σ2 : HS), frm POX σ σ1 → frm PMO σ1 σ2 → v_ord σ2 σ2 → Inv (k + 1) σ2 := by
    intro σ1 σ2 f1 f2 hv
    obtain ⟨J1, rfl⟩ := f1.el
    obtain ⟨J2, rfl⟩ := f2.el
    exact ⟨h.1, h.2.1, h.2.2.1.up, h.2.2.2.1, h.2.2.2.2.1, h.2.2.2.2.2.1, hv, h.2.2.2.2.2.2.2⟩
  rw [eX11_order 8]
  simp only [am_run_s, bt, lf, am_in, am_ar, am_fit, am_ld, am_ct, Nat.reduceLT, Nat.reduceEqDiff, reduceIte, Nat.reduceAdd, Nat.reduceLeDiff, Nat.reduceSub, Bool.false_eq_true, if_true, if_false, ite_true, ite_false, List.length_cons, List.length_nil, Nat.zero_add, Nat.add_zero, and_true, true_and, true_or, or_true, and_self, Nat.le_refl, Nat.lt_irrefl, gI_sI, gL_sL, gQ_sQ, gI_sJ, gI_sL, gI_sQ, gL_sI, gL_sQ, gL_sJ, gQ_sI, gQ_sL, gQ_sJ, gN_sI, gN_sL, gN_sQ, gN_sJ, E_cV_a, E_cV_b, E_c_0, E_getR_0, E_jmp_0, E_jz_0, E_kk, E_ldR_a, E_ldR_b, E_rI_0, am_cc, am_pop, am_rt, cC_0, cC_11, rR_1205, kX11_order]
  refine c_seek h (fun σ1 f1 e1 o1 => ?_) (fun σ1 pl f1 e1 o1 p1 => ?_)
  · simp only [am_run_s, bt, lf, am_in, am_ar, am_fit, am_ld, am_ct, Nat.reduceLT, Nat.reduceEqDiff, reduceIte, Nat.reduceAdd, Nat.reduceLeDiff, Nat.reduceSub, Bool.false_eq_true, if_true, if_false, ite_true, ite_false, List.length_cons, List.length_nil, Nat.zero_add, Nat.add_zero, and_true, true_and, true_or, or_true, and_self, Nat.le_refl, Nat.lt_irrefl, gI_sI, gL_sL, gQ_sQ, gI_sJ, gI_sL, gI_sQ, gL_sI, gL_sQ, gL_sJ, gQ_sI, gQ_sL, gQ_sJ, gN_sI, gN_sL, gN_sQ, gN_sJ, E_cV_a, E_cV_b, E_c_0, E_getR_0, E_jmp_0, E_jz_0, E_kk, E_ldR_a, E_ldR_b, E_rI_0, am_cc, am_pop, am_rt, cC_0, cC_11, rR_1205, kX11_order]
    refine side σ1 _ f1 (fun σ2 f2 e2 o2 => ?_) (fun σ2 pl' f2 e2 o2 p2 => ?_)
    · refine ⟨⟨_, rfl, rfl⟩, fin σ1 σ2 f1 f2 ⟨?_, ?_, fun z => ?_⟩⟩
      · rw [f2.gi rfl, o1, o2]
      · rw [o2]; exact Or.inl rfl
      · rw [o2] at z; exact absurd z (by decide)
    · rw [e1] at e2; cases e2
  · simp only [am_run_s, bt, lf, am_in, am_ar, am_fit, am_ld, am_ct, Nat.reduceLT, Nat.reduceEqDiff, reduceIte, Nat.reduceAdd, Nat.reduceLeDiff, Nat.reduceSub, Bool.false_eq_true, if_true, if_false, ite_true, ite_false, List.length_cons, List.length_nil, Nat.zero_add, Nat.add_zero, and_true, true_and, true_or, or_true, and_self, Nat.le_refl, Nat.lt_irrefl, gI_sI, gL_sL, gQ_sQ, gI_sJ, gI_sL, gI_sQ, gL_sI, gL_sQ, gL_sJ, gQ_sI, gQ_sL, gQ_sJ, gN_sI, gN_sL, gN_sQ, gN_sJ, E_cV_a, E_cV_b, E_c_0, E_getR_0, E_jmp_0, E_jz_0, E_kk, E_ldR_a, E_ldR_b, E_rI_0, am_cc, am_pop, am_rt, cC_0, cC_11, rR_1205, kX11_order, i01]
    refine side σ1 _ f1 (fun σ2 f2 e2 o2 => ?_) (fun σ2 pl' f2 e2 o2 p2 => ?_)
    · rw [e1] at e2; cases e2
    · have ep : pl = pl' := by rw [e1] at e2; exact Option.some.inj e2
      subst ep
      have ok := ordP_ok h24 (pl := fun _ => 0) (lv := fun _ => true) (p := gN σ 10) ⟨fun j h1 h2 => absurd h2 (by omega), fun i j h1 h2 => absurd h2 (by omega)⟩ e1
      have hg : gN σ2 10 = gN σ 10 := by rw [f2.gn, f1.gn]
      refine ⟨⟨_, rfl, rfl⟩, fin σ1 σ2 f1 f2 ⟨?_, ?_, fun _ => ⟨fun i hi => ?_, fun i j hi hj hij => ?_⟩⟩⟩
      · rw [f2.gi rfl, o1, o2]
      · rw [o2]; exact Or.inr rfl
      · rw [hg] at hi
        refine ⟨by rw [f2.gi rfl, p1 i hi, p2 i hi], ?_⟩
        obtain ⟨w, w1, w2⟩ := ok.1 i hi
        exact ⟨w, by rw [hg]; exact w1, by rw [p2 i hi]; exact w2⟩
      · rw [hg] at hi hj
        rw [p2 i hi, p2 j hj]
        exact ok.2 i j hi hj hij
