/-! ===== the reference's build ===== -/
def RBM (σ : HS) (l : List Int32) (st : Nat) (sm : Int32) : Prop := gI σ 1324 0 = nI l.length ∧ gI σ 1326 0 = nI st ∧ gI σ 1325 0 = sm ∧ ∀ j, j < l.length → gI σ 52 j = l.getD j 0
set_option maxRecDepth 8000 in
theorem l_tailM {w b : Int32} {Q : PO} {st : Nat} {sm : Int32} : ∀ (r j : Nat) (σ : HS) (l : List Int32), j + r = 10 → l.length + r < 240 → RBM σ l st sm →
    (∀ σ', frm PFM σ σ' → RBM σ' (l ++ tl j r) st sm → Q none σ') →
    am_T (kX12_build S1) MM Q 190 [some (.inr (.inr (some (12, 0)))), some (.inl w), some (.inl b), some (.inl (nI j))] [] σ 0 0 := by
  intro r
  induction r with
  | zero =>
    intro j σ l hj hl hR hQ
    have : j = 10 := by omega
    subst this
    rw [hX12_build 60]
    have h0 : ¬ nI 10 < 10 := by decide
    simp only [am_run_s, bt, lf, am_in, am_ar, am_fit, am_ld, am_ct, Nat.reduceLT, Nat.reduceEqDiff, reduceIte, Nat.reduceAdd, Nat.reduceLeDiff, Nat.reduceSub, Bool.false_eq_true, if_true, if_false, ite_true, ite_false, List.length_cons, List.length_nil, Nat.zero_add, Nat.add_zero, and_true, true_and, true_or, or_true, and_self, Nat.le_refl, Nat.lt_irrefl, gI_sI, gL_sL, gQ_sQ, gI_sJ, gI_sL, gI_sQ, gL_sI, gL_sQ, gL_sJ, gQ_sI, gQ_sL, gQ_sJ, gN_sI, gN_sL, gN_sQ, gN_sJ, E_b2_0, E_cV_a, E_cV_b, E_c_0, E_dup_0, E_dup_1, E_getI_0, E_getR_0, E_i2l_0, E_iald_0, E_iast_0, E_inc_a, E_inc_b, E_je_0, E_jl_0, E_jmp_0, E_jn_0, E_kk, E_l2_0, E_lald_0, E_ldI_a, E_ldI_b, E_ldR_a, E_ldR_b, E_lsh_0, E_putI_0, E_rV_0, E_stI_0, aL_38, aL_40, aL_52, aL_85, am_cc, am_nl, am_ok, am_pop, am_rt, am_set, cC_12, cC_38, cC_40, cC_52, cC_85, rR_1305, rR_1307, rR_1312, rR_1323, kX12_build, kX12_build_0, kX12_build_1, kX12_build_2, h0, not_false_eq_true]
    refine hQ σ frm.rf ?_
    rw [show l ++ tl 10 0 = l by simp [tl]]
    exact hR
  | succ r ih =>
    intro j σ l hj hl hR hQ
    rw [hX12_build 60]
    have e10 : (10 : Int32) = nI 10 := by decide
    have h0 : nI j < 10 := by rw [e10]; exact nI_lt (by omega) (by omega)
    obtain ⟨r1, r2, r3, r4⟩ := hR
    have h3 : vp_in (nI l.length) 240 := vp_in_nI (by omega) (by omega)
    have h4 : (nI l.length).toNatClampNeg = l.length := nI_clamp (by omega)
    have f0 : frm PFM σ (sI (sI σ 52 l.length (tailV j)) 1324 0 (nI (l.length + 1))) := (frm.rf.si rfl).si rfl
    have key : am_T (kX12_build S1) MM Q 190 [some (.inr (.inr (some (12, 0)))), some (.inl w), some (.inl b), some (.inl (nI (j + 1)))] [] (sI (sI σ 52 l.length (tailV j)) 1324 0 (nI (l.length + 1))) 0 0 := by
      refine ih (j + 1) _ (l ++ [tailV j]) (by omega) (by simp; omega) ?_ (fun σ' f1 h1 => hQ σ' (f0.tr f1) ?_)
      · refine ⟨?_, ?_, ?_, fun i hi => ?_⟩
        · simp only [gI_sI, gL_sL, gQ_sQ, gI_sJ, gI_sL, gI_sQ, gL_sI, gL_sQ, gL_sJ, gQ_sI, gQ_sL, gQ_sJ, gN_sI, gN_sL, gN_sQ, gN_sJ, Nat.reduceLT, Nat.reduceEqDiff, reduceIte, Nat.reduceAdd, Nat.reduceLeDiff, Nat.reduceSub, Bool.false_eq_true, if_true, if_false, ite_true, ite_false, List.length_cons, List.length_nil, Nat.zero_add, Nat.add_zero, and_true, true_and, true_or, or_true, and_self, Nat.le_refl, Nat.lt_irrefl, List.length_append]
        · simp only [gI_sI, gL_sL, gQ_sQ, gI_sJ, gI_sL, gI_sQ, gL_sI, gL_sQ, gL_sJ, gQ_sI, gQ_sL, gQ_sJ, gN_sI, gN_sL, gN_sQ, gN_sJ, Nat.reduceLT, Nat.reduceEqDiff, reduceIte, Nat.reduceAdd, Nat.reduceLeDiff, Nat.reduceSub, Bool.false_eq_true, if_true, if_false, ite_true, ite_false, List.length_cons, List.length_nil, Nat.zero_add, Nat.add_zero, and_true, true_and, true_or, or_true, and_self, Nat.le_refl, Nat.lt_irrefl, r2]
        · simp only [gI_sI, gL_sL, gQ_sQ, gI_sJ, gI_sL, gI_sQ, gL_sI, gL_sQ, gL_sJ, gQ_sI, gQ_sL, gQ_sJ, gN_sI, gN_sL, gN_sQ, gN_sJ, Nat.reduceLT, Nat.reduceEqDiff, reduceIte, Nat.reduceAdd, Nat.reduceLeDiff, Nat.reduceSub, Bool.false_eq_true, if_true, if_false, ite_true, ite_false, List.length_cons, List.length_nil, Nat.zero_add, Nat.add_zero, and_true, true_and, true_or, or_true, and_self, Nat.le_refl, Nat.lt_irrefl, r3]
        · simp only [List.length_append, List.length_cons, List.length_nil] at hi
          simp only [gI_sI, gL_sL, gQ_sQ, gI_sJ, gI_sL, gI_sQ, gL_sI, gL_sQ, gL_sJ, gQ_sI, gQ_sL, gQ_sJ, gN_sI, gN_sL, gN_sQ, gN_sJ, Nat.reduceLT, Nat.reduceEqDiff, reduceIte, Nat.reduceAdd, Nat.reduceLeDiff, Nat.reduceSub, Bool.false_eq_true, if_true, if_false, ite_true, ite_false, List.length_cons, List.length_nil, Nat.zero_add, Nat.add_zero, and_true, true_and, true_or, or_true, and_self, Nat.le_refl, Nat.lt_irrefl]
          rw [getD_app (by omega)]
          by_cases e2 : i = l.length
          · rw [if_pos e2, if_pos e2]
          · rw [if_neg e2, if_neg e2]
            exact r4 i (by omega)
      · rw [show l ++ tl j (r + 1) = l ++ [tailV j] ++ tl (j + 1) r by simp [tl]]
        exact h1
    by_cases j1 : j = 1
    · have h5 : (nI j = 1) = True := eq_true (by rw [j1]; decide)
      have h6 : tailV j = 0 := if_pos j1
      rw [h6] at key
      simp only [am_run_s, bt, lf, am_in, am_ar, am_fit, am_ld, am_ct, Nat.reduceLT, Nat.reduceEqDiff, reduceIte, Nat.reduceAdd, Nat.reduceLeDiff, Nat.reduceSub, Bool.false_eq_true, if_true, if_false, ite_true, ite_false, List.length_cons, List.length_nil, Nat.zero_add, Nat.add_zero, and_true, true_and, true_or, or_true, and_self, Nat.le_refl, Nat.lt_irrefl, gI_sI, gL_sL, gQ_sQ, gI_sJ, gI_sL, gI_sQ, gL_sI, gL_sQ, gL_sJ, gQ_sI, gQ_sL, gQ_sJ, gN_sI, gN_sL, gN_sQ, gN_sJ, E_b2_0, E_cV_a, E_cV_b, E_c_0, E_dup_0, E_dup_1, E_getI_0, E_getR_0, E_i2l_0, E_iald_0, E_iast_0, E_inc_a, E_inc_b, E_je_0, E_jl_0, E_jmp_0, E_jn_0, E_kk, E_l2_0, E_lald_0, E_ldI_a, E_ldI_b, E_ldR_a, E_ldR_b, E_lsh_0, E_putI_0, E_rV_0, E_stI_0, aL_38, aL_40, aL_52, aL_85, am_cc, am_nl, am_ok, am_pop, am_rt, am_set, cC_12, cC_38, cC_40, cC_52, cC_85, rR_1305, rR_1307, rR_1312, rR_1323, kX12_build, kX12_build_0, kX12_build_1, kX12_build_2, h0, h3, h4, h5, r1, nI_1]
      exact key
    · have h5 : ¬ nI j = 1 := fun e => j1 ((nI_eq (by omega) (by omega)).1 (e.trans (by decide : (1 : Int32) = nI 1)))
      have h6 : tailV j = 1 := if_neg j1
      rw [h6] at key
      simp only [am_run_s, bt, lf, am_in, am_ar, am_fit, am_ld, am_ct, Nat.reduceLT, Nat.reduceEqDiff, reduceIte, Nat.reduceAdd, Nat.reduceLeDiff, Nat.reduceSub, Bool.false_eq_true, if_true, if_false, ite_true, ite_false, List.length_cons, List.length_nil, Nat.zero_add, Nat.add_zero, and_true, true_and, true_or, or_true, and_self, Nat.le_refl, Nat.lt_irrefl, gI_sI, gL_sL, gQ_sQ, gI_sJ, gI_sL, gI_sQ, gL_sI, gL_sQ, gL_sJ, gQ_sI, gQ_sL, gQ_sJ, gN_sI, gN_sL, gN_sQ, gN_sJ, E_b2_0, E_cV_a, E_cV_b, E_c_0, E_dup_0, E_dup_1, E_getI_0, E_getR_0, E_i2l_0, E_iald_0, E_iast_0, E_inc_a, E_inc_b, E_je_0, E_jl_0, E_jmp_0, E_jn_0, E_kk, E_l2_0, E_lald_0, E_ldI_a, E_ldI_b, E_ldR_a, E_ldR_b, E_lsh_0, E_putI_0, E_rV_0, E_stI_0, aL_38, aL_40, aL_52, aL_85, am_cc, am_nl, am_ok, am_pop, am_rt, am_set, cC_12, cC_38, cC_40, cC_52, cC_85, rR_1305, rR_1307, rR_1312, rR_1323, kX12_build, kX12_build_0, kX12_build_1, kX12_build_2, h0, h3, h4, h5, r1, nI_1]
      exact key
def bS (v : Int32) (i : Nat) : Int32 := (v >>> (nI i &&& 31)) &&& 1
def nbS (v : Int32) : Nat → List Int32
  | 0 => []
  | w + 1 => bS v w :: nbS v w
theorem nbS_len (v : Int32) : ∀ w, (nbS v w).length = w
  | 0 => rfl
  | w + 1 => by simp [nbS, nbS_len v w]
def frEM (s : FS) (sm : Int32) : List Int32 := (fstL (nbS sm 15) s).1 ++ tl 0 10
theorem l_sumM {w sm : Int32} {Q : PO} : ∀ (k p : Nat) (σ : HS) (s : FS), FOK p s → p + k ≤ 120 → RFM σ s →
    (∀ σ', frm PFM σ σ' → RBM σ' ((fstL (nbS sm k) s).1 ++ tl 0 10) (fstL (nbS sm k) s).2.1 sm → Q none σ') →
    am_T (kX12_build S1) MM Q 164 [some (.inr (.inr (some (12, 0)))), some (.inl w), some (.inl sm), some (.inl (nI k - 1))] [] σ 0 0 := by
  intro k
  induction k with
  | zero =>
    intro p σ s hF hp hR hQ
    have e1 : fstL (nbS sm 0) s = s := rfl
    rw [e1] at hQ
    rw [hX12_build 60]
    have h0 : nI 0 - 1 < 0 := by decide
    simp only [am_run_s, bt, lf, am_in, am_ar, am_fit, am_ld, am_ct, Nat.reduceLT, Nat.reduceEqDiff, reduceIte, Nat.reduceAdd, Nat.reduceLeDiff, Nat.reduceSub, Bool.false_eq_true, if_true, if_false, ite_true, ite_false, List.length_cons, List.length_nil, Nat.zero_add, Nat.add_zero, and_true, true_and, true_or, or_true, and_self, Nat.le_refl, Nat.lt_irrefl, gI_sI, gL_sL, gQ_sQ, gI_sJ, gI_sL, gI_sQ, gL_sI, gL_sQ, gL_sJ, gQ_sI, gQ_sL, gQ_sJ, gN_sI, gN_sL, gN_sQ, gN_sJ, E_b2_0, E_cV_a, E_cV_b, E_c_0, E_dup_0, E_dup_1, E_getI_0, E_getR_0, E_i2l_0, E_iald_0, E_iast_0, E_inc_a, E_inc_b, E_je_0, E_jl_0, E_jmp_0, E_jn_0, E_kk, E_l2_0, E_lald_0, E_ldI_a, E_ldI_b, E_ldR_a, E_ldR_b, E_lsh_0, E_putI_0, E_rV_0, E_stI_0, aL_38, aL_40, aL_52, aL_85, am_cc, am_nl, am_ok, am_pop, am_rt, am_set, cC_12, cC_38, cC_40, cC_52, cC_85, rR_1305, rR_1307, rR_1312, rR_1323, kX12_build, kX12_build_0, kX12_build_1, kX12_build_2, h0]
    have f0 : frm PFM σ (sI σ 1325 0 sm) := frm.rf.si rfl
    refine l_tailM (st := s.2.1) (sm := sm) 10 0 _ s.1 rfl (by have := hF.1; have := hF.2.1; omega) ?_ (fun σ2 f3 h3 => hQ σ2 (f0.tr f3) h3)
    obtain ⟨q1, q2, q3, q4, q5⟩ := hR
    exact ⟨by simp only [gI_sI, gL_sL, gQ_sQ, gI_sJ, gI_sL, gI_sQ, gL_sI, gL_sQ, gL_sJ, gQ_sI, gQ_sL, gQ_sJ, gN_sI, gN_sL, gN_sQ, gN_sJ, Nat.reduceLT, Nat.reduceEqDiff, reduceIte, Nat.reduceAdd, Nat.reduceLeDiff, Nat.reduceSub, Bool.false_eq_true, if_true, if_false, ite_true, ite_false, List.length_cons, List.length_nil, Nat.zero_add, Nat.add_zero, and_true, true_and, true_or, or_true, and_self, Nat.le_refl, Nat.lt_irrefl, q1], by simp only [gI_sI, gL_sL, gQ_sQ, gI_sJ, gI_sL, gI_sQ, gL_sI, gL_sQ, gL_sJ, gQ_sI, gQ_sL, gQ_sJ, gN_sI, gN_sL, gN_sQ, gN_sJ, Nat.reduceLT, Nat.reduceEqDiff, reduceIte, Nat.reduceAdd, Nat.reduceLeDiff, Nat.reduceSub, Bool.false_eq_true, if_true, if_false, ite_true, ite_false, List.length_cons, List.length_nil, Nat.zero_add, Nat.add_zero, and_true, true_and, true_or, or_true, and_self, Nat.le_refl, Nat.lt_irrefl, q2], by simp only [gI_sI, gL_sL, gQ_sQ, gI_sJ, gI_sL, gI_sQ, gL_sI, gL_sQ, gL_sJ, gQ_sI, gQ_sL, gQ_sJ, gN_sI, gN_sL, gN_sQ, gN_sJ, Nat.reduceLT, Nat.reduceEqDiff, reduceIte, Nat.reduceAdd, Nat.reduceLeDiff, Nat.reduceSub, Bool.false_eq_true, if_true, if_false, ite_true, ite_false, List.length_cons, List.length_nil, Nat.zero_add, Nat.add_zero, and_true, true_and, true_or, or_true, and_self, Nat.le_refl, Nat.lt_irrefl], fun j hj => by simp only [gI_sI, gL_sL, gQ_sQ, gI_sJ, gI_sL, gI_sQ, gL_sI, gL_sQ, gL_sJ, gQ_sI, gQ_sL, gQ_sJ, gN_sI, gN_sL, gN_sQ, gN_sJ, Nat.reduceLT, Nat.reduceEqDiff, reduceIte, Nat.reduceAdd, Nat.reduceLeDiff, Nat.reduceSub, Bool.false_eq_true, if_true, if_false, ite_true, ite_false, List.length_cons, List.length_nil, Nat.zero_add, Nat.add_zero, and_true, true_and, true_or, or_true, and_self, Nat.le_refl, Nat.lt_irrefl, q5 j hj]⟩
  | succ k ih =>
    intro p σ s hF hp hR hQ
    rw [hX12_build 60, nI_m1]
    have h0 := nI_f (j := k) (by omega)
    simp only [am_run_s, bt, lf, am_in, am_ar, am_fit, am_ld, am_ct, Nat.reduceLT, Nat.reduceEqDiff, reduceIte, Nat.reduceAdd, Nat.reduceLeDiff, Nat.reduceSub, Bool.false_eq_true, if_true, if_false, ite_true, ite_false, List.length_cons, List.length_nil, Nat.zero_add, Nat.add_zero, and_true, true_and, true_or, or_true, and_self, Nat.le_refl, Nat.lt_irrefl, gI_sI, gL_sL, gQ_sQ, gI_sJ, gI_sL, gI_sQ, gL_sI, gL_sQ, gL_sJ, gQ_sI, gQ_sL, gQ_sJ, gN_sI, gN_sL, gN_sQ, gN_sJ, E_b2_0, E_cV_a, E_cV_b, E_c_0, E_dup_0, E_dup_1, E_getI_0, E_getR_0, E_i2l_0, E_iald_0, E_iast_0, E_inc_a, E_inc_b, E_je_0, E_jl_0, E_jmp_0, E_jn_0, E_kk, E_l2_0, E_lald_0, E_ldI_a, E_ldI_b, E_ldR_a, E_ldR_b, E_lsh_0, E_putI_0, E_rV_0, E_stI_0, aL_38, aL_40, aL_52, aL_85, am_cc, am_nl, am_ok, am_pop, am_rt, am_set, cC_12, cC_38, cC_40, cC_52, cC_85, rR_1305, rR_1307, rR_1312, rR_1323, kX12_build, kX12_build_0, kX12_build_1, kX12_build_2, h0]
    refine c_writes (s := s) (by have := hF.1; have := hF.2.1; omega) (by have := hF.2.2; omega) hR (fun σ' f1 r1 s1 => ?_)
    have hm : nI k + -1 = nI k - 1 := by
      rw [Int32.sub_eq_add_neg]
    simp only [am_run_s, bt, lf, am_in, am_ar, am_fit, am_ld, am_ct, Nat.reduceLT, Nat.reduceEqDiff, reduceIte, Nat.reduceAdd, Nat.reduceLeDiff, Nat.reduceSub, Bool.false_eq_true, if_true, if_false, ite_true, ite_false, List.length_cons, List.length_nil, Nat.zero_add, Nat.add_zero, and_true, true_and, true_or, or_true, and_self, Nat.le_refl, Nat.lt_irrefl, gI_sI, gL_sL, gQ_sQ, gI_sJ, gI_sL, gI_sQ, gL_sI, gL_sQ, gL_sJ, gQ_sI, gQ_sL, gQ_sJ, gN_sI, gN_sL, gN_sQ, gN_sJ, E_b2_0, E_cV_a, E_cV_b, E_c_0, E_dup_0, E_dup_1, E_getI_0, E_getR_0, E_i2l_0, E_iald_0, E_iast_0, E_inc_a, E_inc_b, E_je_0, E_jl_0, E_jmp_0, E_jn_0, E_kk, E_l2_0, E_lald_0, E_ldI_a, E_ldI_b, E_ldR_a, E_ldR_b, E_lsh_0, E_putI_0, E_rV_0, E_stI_0, aL_38, aL_40, aL_52, aL_85, am_cc, am_nl, am_ok, am_pop, am_rt, am_set, cC_12, cC_38, cC_40, cC_52, cC_85, rR_1305, rR_1307, rR_1312, rR_1323, kX12_build, kX12_build_0, kX12_build_1, kX12_build_2, hm]
    exact ih (p + 1) σ' (fst1 (bS sm k) s) (hF.st _) (by omega) r1 (fun σ2 f2 h2 => hQ σ2 (f1.tr f2) h2)
def bycM (v : Int64) (k : Nat) : Int64 := (v >>> ((8 * nI k).toInt64 &&& 63)) &&& 255
def byM (v : Int64) : Nat → List Int32
  | 0 => []
  | k + 1 => nbM (bycM v k) 8 ++ byM v k
theorem byM_s (v : Int64) (k : Nat) : byM v (k + 1) = nbM (bycM v k) 8 ++ byM v k := rfl
theorem l_bytesM {w : Nat} {v : Int64} {Q : PO} (hw : w < 24) : ∀ (k p : Nat) (o : Option AV) (σ : HS) (s : FS) (sm : Int32), FOK p s → p + 8 * k ≤ 99 → RFM σ s → gI σ 1325 0 = sm → gL σ 85 w = v →
    (∀ σ', frm PFM σ σ' → RBM σ' (frEM (fstL (byM v k) s) (crcL crcM (byM v k) sm)) (fstL (nbS (crcL crcM (byM v k) sm) 15) (fstL (byM v k) s)).2.1 (crcL crcM (byM v k) sm) → Q none σ') →
    am_T (kX12_build S1) MM Q 125 [some (.inr (.inr (some (12, 0)))), some (.inl (nI w)), some (.inl (nI k - 1)), o] [] σ 0 0 := by
  intro k
  have w3 : vp_in (nI w) 24 := vp_in_nI (by omega) (by omega)
  have w4 : (nI w).toNatClampNeg = w := nI_clamp (by omega)
  induction k with
  | zero =>
    intro p o σ s sm hF hp hR hs hv hQ
    have e1 : fstL (byM v 0) s = s := rfl
    have e2 : crcL crcM (byM v 0) sm = sm := rfl
    rw [e1, e2] at hQ
    unfold frEM at hQ
    rw [hX12_build 60]
    have h0 : nI 0 - 1 < 0 := by decide
    have e14 : (14 : Int32) = nI 15 - 1 := by decide
    simp only [am_run_s, bt, lf, am_in, am_ar, am_fit, am_ld, am_ct, Nat.reduceLT, Nat.reduceEqDiff, reduceIte, Nat.reduceAdd, Nat.reduceLeDiff, Nat.reduceSub, Bool.false_eq_true, if_true, if_false, ite_true, ite_false, List.length_cons, List.length_nil, Nat.zero_add, Nat.add_zero, and_true, true_and, true_or, or_true, and_self, Nat.le_refl, Nat.lt_irrefl, gI_sI, gL_sL, gQ_sQ, gI_sJ, gI_sL, gI_sQ, gL_sI, gL_sQ, gL_sJ, gQ_sI, gQ_sL, gQ_sJ, gN_sI, gN_sL, gN_sQ, gN_sJ, E_b2_0, E_cV_a, E_cV_b, E_c_0, E_dup_0, E_dup_1, E_getI_0, E_getR_0, E_i2l_0, E_iald_0, E_iast_0, E_inc_a, E_inc_b, E_je_0, E_jl_0, E_jmp_0, E_jn_0, E_kk, E_l2_0, E_lald_0, E_ldI_a, E_ldI_b, E_ldR_a, E_ldR_b, E_lsh_0, E_putI_0, E_rV_0, E_stI_0, aL_38, aL_40, aL_52, aL_85, am_cc, am_nl, am_ok, am_pop, am_rt, am_set, cC_12, cC_38, cC_40, cC_52, cC_85, rR_1305, rR_1307, rR_1312, rR_1323, kX12_build, kX12_build_0, kX12_build_1, kX12_build_2, h0, hs]
    rw [e14]
    exact l_sumM 15 p σ s hF (by omega) hR hQ
  | succ k ih =>
    intro p o σ s sm hF hp hR hs hv hQ
    rw [hX12_build 60, nI_m1]
    have h0 := nI_f (j := k) (by omega)
    simp only [am_run_s, bt, lf, am_in, am_ar, am_fit, am_ld, am_ct, Nat.reduceLT, Nat.reduceEqDiff, reduceIte, Nat.reduceAdd, Nat.reduceLeDiff, Nat.reduceSub, Bool.false_eq_true, if_true, if_false, ite_true, ite_false, List.length_cons, List.length_nil, Nat.zero_add, Nat.add_zero, and_true, true_and, true_or, or_true, and_self, Nat.le_refl, Nat.lt_irrefl, gI_sI, gL_sL, gQ_sQ, gI_sJ, gI_sL, gI_sQ, gL_sI, gL_sQ, gL_sJ, gQ_sI, gQ_sL, gQ_sJ, gN_sI, gN_sL, gN_sQ, gN_sJ, E_b2_0, E_cV_a, E_cV_b, E_c_0, E_dup_0, E_dup_1, E_getI_0, E_getR_0, E_i2l_0, E_iald_0, E_iast_0, E_inc_a, E_inc_b, E_je_0, E_jl_0, E_jmp_0, E_jn_0, E_kk, E_l2_0, E_lald_0, E_ldI_a, E_ldI_b, E_ldR_a, E_ldR_b, E_lsh_0, E_putI_0, E_rV_0, E_stI_0, aL_38, aL_40, aL_52, aL_85, am_cc, am_nl, am_ok, am_pop, am_rt, am_set, cC_12, cC_38, cC_40, cC_52, cC_85, rR_1305, rR_1307, rR_1312, rR_1323, kX12_build, kX12_build_0, kX12_build_1, kX12_build_2, h0, w3, w4, hv]
    refine c_plain (w := 8) (s := s) (sm := sm) hF (by omega) hR hs (fun σ' f1 r1 s1 => ?_) _ (by decide)
    have hm : nI k + -1 = nI k - 1 := by
      rw [Int32.sub_eq_add_neg]
    simp only [am_run_s, bt, lf, am_in, am_ar, am_fit, am_ld, am_ct, Nat.reduceLT, Nat.reduceEqDiff, reduceIte, Nat.reduceAdd, Nat.reduceLeDiff, Nat.reduceSub, Bool.false_eq_true, if_true, if_false, ite_true, ite_false, List.length_cons, List.length_nil, Nat.zero_add, Nat.add_zero, and_true, true_and, true_or, or_true, and_self, Nat.le_refl, Nat.lt_irrefl, gI_sI, gL_sL, gQ_sQ, gI_sJ, gI_sL, gI_sQ, gL_sI, gL_sQ, gL_sJ, gQ_sI, gQ_sL, gQ_sJ, gN_sI, gN_sL, gN_sQ, gN_sJ, E_b2_0, E_cV_a, E_cV_b, E_c_0, E_dup_0, E_dup_1, E_getI_0, E_getR_0, E_i2l_0, E_iald_0, E_iast_0, E_inc_a, E_inc_b, E_je_0, E_jl_0, E_jmp_0, E_jn_0, E_kk, E_l2_0, E_lald_0, E_ldI_a, E_ldI_b, E_ldR_a, E_ldR_b, E_lsh_0, E_putI_0, E_rV_0, E_stI_0, aL_38, aL_40, aL_52, aL_85, am_cc, am_nl, am_ok, am_pop, am_rt, am_set, cC_12, cC_38, cC_40, cC_52, cC_85, rR_1305, rR_1307, rR_1312, rR_1323, kX12_build, kX12_build_0, kX12_build_1, kX12_build_2, hm]
    have hF2 := hF.stL (nbM (bycM v k) 8)
    rw [nbM_len] at hF2
    refine ih (p + 8) _ σ' (fstL (nbM (bycM v k) 8) s) (crcL crcM (nbM (bycM v k) 8) sm) hF2 (by omega) r1 s1 (by rw [f1.gl]; exact hv) (fun σ2 f2 h2 => hQ σ2 (f1.tr f2) ?_)
    rw [byM_s, fstL_app, crcL_app]
    exact h2
