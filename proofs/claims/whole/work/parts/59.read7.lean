/-! ===== reading: the reference, whole ===== -/
def omp (σ : HS) (o : Nat × Int32 × Nat) : Prop := gI σ 1331 0 = nI o.1 ∧ gI σ 1332 0 = o.2.1 ∧ gI σ 1338 0 = nI o.2.2
theorem RMd.o {σ : HS} {s : RS} (h : RMd σ s) (r n sm : Int32) (v : Int64) : omp σ (oF s r n sm v).1 := ⟨h.1, h.2.1, h.2.2.2.2⟩
def PMK (f : Nat) : Bool := PMD f || Nat.beq f 1336
theorem PMK_le (f : Nat) (h : PMK f = false) : PMD f = false := by
  unfold PMK at h
  simp only [Bool.or_eq_false_iff] at h
  exact h.1
theorem b1 : am_b (1 : Int32) := Or.inr rfl
theorem b0 : am_b (0 : Int32) := Or.inl rfl
theorem c_readsRank {σ : HS} {L : List Int32} {s : RS} {sm : Int32} {Q : PO} (hL : L.length ≤ 2000) (ha : ab L) (hT : TPM σ L) (hs : RV L s) (hR : RMd σ s) (hm : gI σ 1335 0 = sm)
    (hF : ∀ σ' o, frm PMD σ σ' → rd2 L s sm = o → omp σ' o.1 → ¬ o.1.2.1 = 0 → o.2 = (-1, -1, -1, 0) → Q none σ')
    (hS : ∀ σ' s' sm' r, frm PMK σ σ' → RV L s' → RMd σ' s' → gI σ' 1335 0 = sm' → gI σ' 1336 0 = r → rd2 L s sm = rd3 L s' sm' r → Q none σ') : MM 169 [.inr (.inr (some (12, 0)))] σ Q := by
  rw [eX12_readsRank 36]
  simp only [am_run_s, bt, lf, am_in, am_ar, am_fit, am_ld, am_ct, Nat.reduceLT, Nat.reduceEqDiff, reduceIte, Nat.reduceAdd, Nat.reduceLeDiff, Nat.reduceSub, Bool.false_eq_true, if_true, if_false, ite_true, ite_false, List.length_cons, List.length_nil, Nat.zero_add, Nat.add_zero, and_true, true_and, true_or, or_true, and_self, Nat.le_refl, Nat.lt_irrefl, gI_sI, gL_sL, gQ_sQ, gI_sJ, gI_sL, gI_sQ, gL_sI, gL_sQ, gL_sJ, gQ_sI, gQ_sL, gQ_sJ, gN_sI, gN_sL, gN_sQ, gN_sJ, E_b2_0, E_cV_a, E_cV_b, E_c_0, E_getI_0, E_jz_0, E_kk, E_ldI_a, E_ldI_b, E_ldR_a, E_ldR_b, E_putI_0, E_rV_0, E_stI_0, am_cc, am_nl, am_ok, am_pop, am_rt, am_set, cC_12, kX12_readsRank]
  refine c_takes (w := 11) b1 (by omega) hL ha hT hs hR (fun _ => hm) _ (by decide) (fun σ1 u1 f1 r1 m1 _ w1 => ?_)
  cases e : (tkN L 11 s 0 sm).2 with
  | none =>
    have hf : ¬ gI σ1 1332 0 = 0 := by rw [r1.2.1]; exact tkN_f e
    simp only [am_run_s, bt, lf, am_in, am_ar, am_fit, am_ld, am_ct, Nat.reduceLT, Nat.reduceEqDiff, reduceIte, Nat.reduceAdd, Nat.reduceLeDiff, Nat.reduceSub, Bool.false_eq_true, if_true, if_false, ite_true, ite_false, List.length_cons, List.length_nil, Nat.zero_add, Nat.add_zero, and_true, true_and, true_or, or_true, and_self, Nat.le_refl, Nat.lt_irrefl, gI_sI, gL_sL, gQ_sQ, gI_sJ, gI_sL, gI_sQ, gL_sI, gL_sQ, gL_sJ, gQ_sI, gQ_sL, gQ_sJ, gN_sI, gN_sL, gN_sQ, gN_sJ, E_b2_0, E_cV_a, E_cV_b, E_c_0, E_getI_0, E_jz_0, E_kk, E_ldI_a, E_ldI_b, E_ldR_a, E_ldR_b, E_putI_0, E_rV_0, E_stI_0, am_cc, am_nl, am_ok, am_pop, am_rt, am_set, cC_12, kX12_readsRank, ↓s_takes_f hf (show (0 : Int32) < 1 by decide), hf]
    exact hF σ1 _ f1 (by unfold rd2; rw [e]) (r1.o _ _ _ _) (tkN_f e) rfl
  | some p =>
    rw [w1 p e]
    simp only [am_run_s, bt, lf, am_in, am_ar, am_fit, am_ld, am_ct, Nat.reduceLT, Nat.reduceEqDiff, reduceIte, Nat.reduceAdd, Nat.reduceLeDiff, Nat.reduceSub, Bool.false_eq_true, if_true, if_false, ite_true, ite_false, List.length_cons, List.length_nil, Nat.zero_add, Nat.add_zero, and_true, true_and, true_or, or_true, and_self, Nat.le_refl, Nat.lt_irrefl, gI_sI, gL_sL, gQ_sQ, gI_sJ, gI_sL, gI_sQ, gL_sI, gL_sQ, gL_sJ, gQ_sI, gQ_sL, gQ_sJ, gN_sI, gN_sL, gN_sQ, gN_sJ, E_b2_0, E_cV_a, E_cV_b, E_c_0, E_getI_0, E_jz_0, E_kk, E_ldI_a, E_ldI_b, E_ldR_a, E_ldR_b, E_putI_0, E_rV_0, E_stI_0, am_cc, am_nl, am_ok, am_pop, am_rt, am_set, cC_12, kX12_readsRank]
    have v1 := RV_tkN ha hs e
    refine c_takes (w := 1) b1 (by omega) hL ha (hT.fx f1 rfl rfl) v1 r1 (fun _ => m1 rfl p e) _ (by decide) (fun σ2 u2 f2 r2 m2 _ w2 => ?_)
    have ed : rd2 L s sm = rd2b L (tkN L 11 s 0 sm).1 p.1 p.2 := by unfold rd2; rw [e]
    rw [ed] at hF hS
    generalize (tkN L 11 s 0 sm).1 = s1 at hF hS r2 m2 v1 w2 ⊢
    cases e2 : (tkN L 1 s1 0 p.2).2 with
    | none =>
      have hf : ¬ gI σ2 1332 0 = 0 := by rw [r2.2.1]; exact tkN_f e2
      simp only [am_run_s, bt, lf, am_in, am_ar, am_fit, am_ld, am_ct, Nat.reduceLT, Nat.reduceEqDiff, reduceIte, Nat.reduceAdd, Nat.reduceLeDiff, Nat.reduceSub, Bool.false_eq_true, if_true, if_false, ite_true, ite_false, List.length_cons, List.length_nil, Nat.zero_add, Nat.add_zero, and_true, true_and, true_or, or_true, and_self, Nat.le_refl, Nat.lt_irrefl, gI_sI, gL_sL, gQ_sQ, gI_sJ, gI_sL, gI_sQ, gL_sI, gL_sQ, gL_sJ, gQ_sI, gQ_sL, gQ_sJ, gN_sI, gN_sL, gN_sQ, gN_sJ, E_b2_0, E_cV_a, E_cV_b, E_c_0, E_getI_0, E_jz_0, E_kk, E_ldI_a, E_ldI_b, E_ldR_a, E_ldR_b, E_putI_0, E_rV_0, E_stI_0, am_cc, am_nl, am_ok, am_pop, am_rt, am_set, cC_12, kX12_readsRank, hf]
      exact hF σ2 _ (f1.tr f2) (by unfold rd2b; rw [e2]) (r2.o _ _ _ _) (tkN_f e2) rfl
    | some q =>
      rw [w2 q e2]
      have v2 := RV_tkN ha v1 e2
      have hf : gI σ2 1332 0 = 0 := by rw [r2.2.1]; exact v2.2.1
      by_cases q0 : q.1 = 0
      · simp only [am_run_s, bt, lf, am_in, am_ar, am_fit, am_ld, am_ct, Nat.reduceLT, Nat.reduceEqDiff, reduceIte, Nat.reduceAdd, Nat.reduceLeDiff, Nat.reduceSub, Bool.false_eq_true, if_true, if_false, ite_true, ite_false, List.length_cons, List.length_nil, Nat.zero_add, Nat.add_zero, and_true, true_and, true_or, or_true, and_self, Nat.le_refl, Nat.lt_irrefl, gI_sI, gL_sL, gQ_sQ, gI_sJ, gI_sL, gI_sQ, gL_sI, gL_sQ, gL_sJ, gQ_sI, gQ_sL, gQ_sJ, gN_sI, gN_sL, gN_sQ, gN_sJ, E_b2_0, E_cV_a, E_cV_b, E_c_0, E_getI_0, E_jz_0, E_kk, E_ldI_a, E_ldI_b, E_ldR_a, E_ldR_b, E_putI_0, E_rV_0, E_stI_0, am_cc, am_nl, am_ok, am_pop, am_rt, am_set, cC_12, kX12_readsRank, hf, q0]
        have g0 : frm PMK σ (sI σ2 1336 0 p.1) := ((f1.tr f2).mo PMK_le).si rfl
        refine hS _ (tkN L 1 s1 0 p.2).1 q.2 p.1 g0 v2 ⟨?_, ?_, ?_, ?_, ?_⟩ ?_ ?_ (by unfold rd2b; rw [e2]; dsimp only; rw [if_pos q0])
        · simp only [gI_sI, gL_sL, gQ_sQ, gI_sJ, gI_sL, gI_sQ, gL_sI, gL_sQ, gL_sJ, gQ_sI, gQ_sL, gQ_sJ, gN_sI, gN_sL, gN_sQ, gN_sJ, Nat.reduceLT, Nat.reduceEqDiff, reduceIte, Nat.reduceAdd, Nat.reduceLeDiff, Nat.reduceSub, Bool.false_eq_true, if_true, if_false, ite_true, ite_false, List.length_cons, List.length_nil, Nat.zero_add, Nat.add_zero, and_true, true_and, true_or, or_true, and_self, Nat.le_refl, Nat.lt_irrefl, r2.1]
        · simp only [gI_sI, gL_sL, gQ_sQ, gI_sJ, gI_sL, gI_sQ, gL_sI, gL_sQ, gL_sJ, gQ_sI, gQ_sL, gQ_sJ, gN_sI, gN_sL, gN_sQ, gN_sJ, Nat.reduceLT, Nat.reduceEqDiff, reduceIte, Nat.reduceAdd, Nat.reduceLeDiff, Nat.reduceSub, Bool.false_eq_true, if_true, if_false, ite_true, ite_false, List.length_cons, List.length_nil, Nat.zero_add, Nat.add_zero, and_true, true_and, true_or, or_true, and_self, Nat.le_refl, Nat.lt_irrefl, r2.2.1]
        · simp only [gI_sI, gL_sL, gQ_sQ, gI_sJ, gI_sL, gI_sQ, gL_sI, gL_sQ, gL_sJ, gQ_sI, gQ_sL, gQ_sJ, gN_sI, gN_sL, gN_sQ, gN_sJ, Nat.reduceLT, Nat.reduceEqDiff, reduceIte, Nat.reduceAdd, Nat.reduceLeDiff, Nat.reduceSub, Bool.false_eq_true, if_true, if_false, ite_true, ite_false, List.length_cons, List.length_nil, Nat.zero_add, Nat.add_zero, and_true, true_and, true_or, or_true, and_self, Nat.le_refl, Nat.lt_irrefl, r2.2.2.1]
        · simp only [gI_sI, gL_sL, gQ_sQ, gI_sJ, gI_sL, gI_sQ, gL_sI, gL_sQ, gL_sJ, gQ_sI, gQ_sL, gQ_sJ, gN_sI, gN_sL, gN_sQ, gN_sJ, Nat.reduceLT, Nat.reduceEqDiff, reduceIte, Nat.reduceAdd, Nat.reduceLeDiff, Nat.reduceSub, Bool.false_eq_true, if_true, if_false, ite_true, ite_false, List.length_cons, List.length_nil, Nat.zero_add, Nat.add_zero, and_true, true_and, true_or, or_true, and_self, Nat.le_refl, Nat.lt_irrefl, r2.2.2.2.1]
        · simp only [gI_sI, gL_sL, gQ_sQ, gI_sJ, gI_sL, gI_sQ, gL_sI, gL_sQ, gL_sJ, gQ_sI, gQ_sL, gQ_sJ, gN_sI, gN_sL, gN_sQ, gN_sJ, Nat.reduceLT, Nat.reduceEqDiff, reduceIte, Nat.reduceAdd, Nat.reduceLeDiff, Nat.reduceSub, Bool.false_eq_true, if_true, if_false, ite_true, ite_false, List.length_cons, List.length_nil, Nat.zero_add, Nat.add_zero, and_true, true_and, true_or, or_true, and_self, Nat.le_refl, Nat.lt_irrefl, r2.2.2.2.2]
        · simp only [gI_sI, gL_sL, gQ_sQ, gI_sJ, gI_sL, gI_sQ, gL_sI, gL_sQ, gL_sJ, gQ_sI, gQ_sL, gQ_sJ, gN_sI, gN_sL, gN_sQ, gN_sJ, Nat.reduceLT, Nat.reduceEqDiff, reduceIte, Nat.reduceAdd, Nat.reduceLeDiff, Nat.reduceSub, Bool.false_eq_true, if_true, if_false, ite_true, ite_false, List.length_cons, List.length_nil, Nat.zero_add, Nat.add_zero, and_true, true_and, true_or, or_true, and_self, Nat.le_refl, Nat.lt_irrefl]; exact m2 rfl q e2
        · simp only [gI_sI, gL_sL, gQ_sQ, gI_sJ, gI_sL, gI_sQ, gL_sI, gL_sQ, gL_sJ, gQ_sI, gQ_sL, gQ_sJ, gN_sI, gN_sL, gN_sQ, gN_sJ, Nat.reduceLT, Nat.reduceEqDiff, reduceIte, Nat.reduceAdd, Nat.reduceLeDiff, Nat.reduceSub, Bool.false_eq_true, if_true, if_false, ite_true, ite_false, List.length_cons, List.length_nil, Nat.zero_add, Nat.add_zero, and_true, true_and, true_or, or_true, and_self, Nat.le_refl, Nat.lt_irrefl]
      · simp only [am_run_s, bt, lf, am_in, am_ar, am_fit, am_ld, am_ct, Nat.reduceLT, Nat.reduceEqDiff, reduceIte, Nat.reduceAdd, Nat.reduceLeDiff, Nat.reduceSub, Bool.false_eq_true, if_true, if_false, ite_true, ite_false, List.length_cons, List.length_nil, Nat.zero_add, Nat.add_zero, and_true, true_and, true_or, or_true, and_self, Nat.le_refl, Nat.lt_irrefl, gI_sI, gL_sL, gQ_sQ, gI_sJ, gI_sL, gI_sQ, gL_sI, gL_sQ, gL_sJ, gQ_sI, gQ_sL, gQ_sJ, gN_sI, gN_sL, gN_sQ, gN_sJ, E_b2_0, E_cV_a, E_cV_b, E_c_0, E_getI_0, E_jz_0, E_kk, E_ldI_a, E_ldI_b, E_ldR_a, E_ldR_b, E_putI_0, E_rV_0, E_stI_0, am_cc, am_nl, am_ok, am_pop, am_rt, am_set, cC_12, kX12_readsRank, hf, q0]
        have ed2 : rd2b L s1 p.1 p.2 = rd2c L (tkN L 1 s1 0 p.2).1 p.1 q.2 := by unfold rd2b; rw [e2]; dsimp only; rw [if_neg q0]
        rw [ed2] at hF hS
        refine c_takes (w := 18) b1 (by omega) hL ha ((hT.fx f1 rfl rfl).fx f2 rfl rfl) v2 r2 (fun _ => m2 rfl q e2) _ (by decide) (fun σ3 u3 f3 r3 m3 _ w3 => ?_)
        generalize (tkN L 1 s1 0 p.2).1 = s2 at hF hS r3 m3 v2 w3 ⊢
        cases e3 : (tkN L 18 s2 0 q.2).2 with
        | none =>
          have hf3 : ¬ gI σ3 1332 0 = 0 := by rw [r3.2.1]; exact tkN_f e3
          simp only [am_run_s, bt, lf, am_in, am_ar, am_fit, am_ld, am_ct, Nat.reduceLT, Nat.reduceEqDiff, reduceIte, Nat.reduceAdd, Nat.reduceLeDiff, Nat.reduceSub, Bool.false_eq_true, if_true, if_false, ite_true, ite_false, List.length_cons, List.length_nil, Nat.zero_add, Nat.add_zero, and_true, true_and, true_or, or_true, and_self, Nat.le_refl, Nat.lt_irrefl, gI_sI, gL_sL, gQ_sQ, gI_sJ, gI_sL, gI_sQ, gL_sI, gL_sQ, gL_sJ, gQ_sI, gQ_sL, gQ_sJ, gN_sI, gN_sL, gN_sQ, gN_sJ, E_b2_0, E_cV_a, E_cV_b, E_c_0, E_getI_0, E_jz_0, E_kk, E_ldI_a, E_ldI_b, E_ldR_a, E_ldR_b, E_putI_0, E_rV_0, E_stI_0, am_cc, am_nl, am_ok, am_pop, am_rt, am_set, cC_12, kX12_readsRank, hf3]
          exact hF σ3 _ ((f1.tr f2).tr f3) (by unfold rd2c; rw [e3]) (r3.o _ _ _ _) (tkN_f e3) rfl
        | some t =>
          rw [w3 t e3]
          have v3 := RV_tkN ha v2 e3
          have hf3 : gI σ3 1332 0 = 0 := by rw [r3.2.1]; exact v3.2.1
          simp only [am_run_s, bt, lf, am_in, am_ar, am_fit, am_ld, am_ct, Nat.reduceLT, Nat.reduceEqDiff, reduceIte, Nat.reduceAdd, Nat.reduceLeDiff, Nat.reduceSub, Bool.false_eq_true, if_true, if_false, ite_true, ite_false, List.length_cons, List.length_nil, Nat.zero_add, Nat.add_zero, and_true, true_and, true_or, or_true, and_self, Nat.le_refl, Nat.lt_irrefl, gI_sI, gL_sL, gQ_sQ, gI_sJ, gI_sL, gI_sQ, gL_sI, gL_sQ, gL_sJ, gQ_sI, gQ_sL, gQ_sJ, gN_sI, gN_sL, gN_sQ, gN_sJ, E_b2_0, E_cV_a, E_cV_b, E_c_0, E_getI_0, E_jz_0, E_kk, E_ldI_a, E_ldI_b, E_ldR_a, E_ldR_b, E_putI_0, E_rV_0, E_stI_0, am_cc, am_nl, am_ok, am_pop, am_rt, am_set, cC_12, kX12_readsRank, hf3]
          have g0 : frm PMK σ (sI σ3 1336 0 (2048 + ((p.1 <<< ((18 : Int32) &&& 31)) ||| t.1))) := (((f1.tr f2).tr f3).mo PMK_le).si rfl
          refine hS _ (tkN L 18 s2 0 q.2).1 t.2 (2048 + ((p.1 <<< ((18 : Int32) &&& 31)) ||| t.1)) g0 v3 ⟨?_, ?_, ?_, ?_, ?_⟩ ?_ ?_ (by unfold rd2c; rw [e3])
          · simp only [gI_sI, gL_sL, gQ_sQ, gI_sJ, gI_sL, gI_sQ, gL_sI, gL_sQ, gL_sJ, gQ_sI, gQ_sL, gQ_sJ, gN_sI, gN_sL, gN_sQ, gN_sJ, Nat.reduceLT, Nat.reduceEqDiff, reduceIte, Nat.reduceAdd, Nat.reduceLeDiff, Nat.reduceSub, Bool.false_eq_true, if_true, if_false, ite_true, ite_false, List.length_cons, List.length_nil, Nat.zero_add, Nat.add_zero, and_true, true_and, true_or, or_true, and_self, Nat.le_refl, Nat.lt_irrefl, r3.1]
          · simp only [gI_sI, gL_sL, gQ_sQ, gI_sJ, gI_sL, gI_sQ, gL_sI, gL_sQ, gL_sJ, gQ_sI, gQ_sL, gQ_sJ, gN_sI, gN_sL, gN_sQ, gN_sJ, Nat.reduceLT, Nat.reduceEqDiff, reduceIte, Nat.reduceAdd, Nat.reduceLeDiff, Nat.reduceSub, Bool.false_eq_true, if_true, if_false, ite_true, ite_false, List.length_cons, List.length_nil, Nat.zero_add, Nat.add_zero, and_true, true_and, true_or, or_true, and_self, Nat.le_refl, Nat.lt_irrefl, r3.2.1]
          · simp only [gI_sI, gL_sL, gQ_sQ, gI_sJ, gI_sL, gI_sQ, gL_sI, gL_sQ, gL_sJ, gQ_sI, gQ_sL, gQ_sJ, gN_sI, gN_sL, gN_sQ, gN_sJ, Nat.reduceLT, Nat.reduceEqDiff, reduceIte, Nat.reduceAdd, Nat.reduceLeDiff, Nat.reduceSub, Bool.false_eq_true, if_true, if_false, ite_true, ite_false, List.length_cons, List.length_nil, Nat.zero_add, Nat.add_zero, and_true, true_and, true_or, or_true, and_self, Nat.le_refl, Nat.lt_irrefl, r3.2.2.1]
          · simp only [gI_sI, gL_sL, gQ_sQ, gI_sJ, gI_sL, gI_sQ, gL_sI, gL_sQ, gL_sJ, gQ_sI, gQ_sL, gQ_sJ, gN_sI, gN_sL, gN_sQ, gN_sJ, Nat.reduceLT, Nat.reduceEqDiff, reduceIte, Nat.reduceAdd, Nat.reduceLeDiff, Nat.reduceSub, Bool.false_eq_true, if_true, if_false, ite_true, ite_false, List.length_cons, List.length_nil, Nat.zero_add, Nat.add_zero, and_true, true_and, true_or, or_true, and_self, Nat.le_refl, Nat.lt_irrefl, r3.2.2.2.1]
          · simp only [gI_sI, gL_sL, gQ_sQ, gI_sJ, gI_sL, gI_sQ, gL_sI, gL_sQ, gL_sJ, gQ_sI, gQ_sL, gQ_sJ, gN_sI, gN_sL, gN_sQ, gN_sJ, Nat.reduceLT, Nat.reduceEqDiff, reduceIte, Nat.reduceAdd, Nat.reduceLeDiff, Nat.reduceSub, Bool.false_eq_true, if_true, if_false, ite_true, ite_false, List.length_cons, List.length_nil, Nat.zero_add, Nat.add_zero, and_true, true_and, true_or, or_true, and_self, Nat.le_refl, Nat.lt_irrefl, r3.2.2.2.2]
          · simp only [gI_sI, gL_sL, gQ_sQ, gI_sJ, gI_sL, gI_sQ, gL_sI, gL_sQ, gL_sJ, gQ_sI, gQ_sL, gQ_sJ, gN_sI, gN_sL, gN_sQ, gN_sJ, Nat.reduceLT, Nat.reduceEqDiff, reduceIte, Nat.reduceAdd, Nat.reduceLeDiff, Nat.reduceSub, Bool.false_eq_true, if_true, if_false, ite_true, ite_false, List.length_cons, List.length_nil, Nat.zero_add, Nat.add_zero, and_true, true_and, true_or, or_true, and_self, Nat.le_refl, Nat.lt_irrefl]; exact m3 rfl t e3
          · simp only [gI_sI, gL_sL, gQ_sQ, gI_sJ, gI_sL, gI_sQ, gL_sI, gL_sQ, gL_sJ, gQ_sI, gQ_sL, gQ_sJ, gN_sI, gN_sL, gN_sQ, gN_sJ, Nat.reduceLT, Nat.reduceEqDiff, reduceIte, Nat.reduceAdd, Nat.reduceLeDiff, Nat.reduceSub, Bool.false_eq_true, if_true, if_false, ite_true, ite_false, List.length_cons, List.length_nil, Nat.zero_add, Nat.add_zero, and_true, true_and, true_or, or_true, and_self, Nat.le_refl, Nat.lt_irrefl]
def PMC (f : Nat) : Bool := PMD f || Nat.beq f 1337
theorem PMC_le (f : Nat) (h : PMC f = false) : PMD f = false := by
  unfold PMC at h
  simp only [Bool.or_eq_false_iff] at h
  exact h.1
def PML (f : Nat) : Bool := Nat.beq f 1340
theorem TPM.f2 {σ σ' : HS} {l : List Int32} {P R : Nat → Bool} (h : TPM σ l) (f : fr2 P R σ σ') (h1 : P 1330 = false) (h2 : P 53 = false) : TPM σ' l :=
  ⟨by rw [f.gi h1]; exact h.1, fun j hj => by rw [f.gi h2]; exact h.2 j hj⟩
theorem l_readsBytes {L : List Int32} {Q : PO} {k : Nat} (hk : k ≤ 8) (hL : L.length ≤ 2000) (ha : ab L) : ∀ (w i : Nat) (σ : HS) (s : RS) (sm : Int32) (v : Int64) (o : Option AV), i + w = k → TPM σ L → RV L s → RMd σ s → gI σ 1335 0 = sm → gL σ 1340 0 = v →
    (∀ σ' s' v', fr2 PMD PML σ σ' → bytP L w s sm v = ((s', none), v') → RMd σ' s' → ¬ s'.2.1 = 0 → gL σ' 1340 0 = v' → Q none σ') →
    (∀ σ' s' sm' v', fr2 PMD PML σ σ' → bytP L w s sm v = ((s', some sm'), v') → RV L s' → RMd σ' s' → gI σ' 1335 0 = sm' → gL σ' 1340 0 = v' → Q none σ') →
    am_T (kX12_readsBytes S1) MM Q 40 [some (.inr (.inr (some (12, 0)))), some (.inl (nI k)), some (.inl (nI i)), o] [] σ 0 0 := by
  intro w
  induction w with
  | zero =>
    intro i σ s sm v o hi hT hs hR hm hv hF hS
    have e : i = k := by omega
    subst e
    rw [hX12_readsBytes 6]
    have h0 : ¬ nI i < nI i := nI_nlt (by omega) (by omega)
    simp only [am_run_s, bt, lf, am_in, am_ar, am_fit, am_ld, am_ct, Nat.reduceLT, Nat.reduceEqDiff, reduceIte, Nat.reduceAdd, Nat.reduceLeDiff, Nat.reduceSub, Bool.false_eq_true, if_true, if_false, ite_true, ite_false, List.length_cons, List.length_nil, Nat.zero_add, Nat.add_zero, and_true, true_and, true_or, or_true, and_self, Nat.le_refl, Nat.lt_irrefl, gI_sI, gL_sL, gQ_sQ, gI_sJ, gI_sL, gI_sQ, gL_sI, gL_sQ, gL_sJ, gQ_sI, gQ_sL, gQ_sJ, gN_sI, gN_sL, gN_sQ, gN_sJ, E_b2_0, E_cV_a, E_cV_b, E_c_0, E_getI_0, E_getL_0, E_i2l_0, E_inc_a, E_inc_b, E_jg_0, E_jl_0, E_jmp_0, E_jz_0, E_kk, E_l2_0, E_ldI_a, E_ldI_b, E_ldR_a, E_ldR_b, E_lsh_0, E_putI_0, E_putL_0, E_rV_0, E_stI_0, am_cc, am_nl, am_ok, am_pop, am_rt, am_set, cC_12, kX12_readsBytes, kX12_readsBytes_0, kX12_readsBytes_1, h0]
    exact hS σ s sm v fr2.rf rfl hs hR hm hv
  | succ w ih =>
    intro i σ s sm v o hi hT hs hR hm hv hF hS
    rw [hX12_readsBytes 30]
    have h0 := nI_t (show i < k by omega) (by omega)
    have hf0 : gI σ 1332 0 = 0 := by rw [hR.2.1]; exact hs.2.1
    simp only [am_run_s, bt, lf, am_in, am_ar, am_fit, am_ld, am_ct, Nat.reduceLT, Nat.reduceEqDiff, reduceIte, Nat.reduceAdd, Nat.reduceLeDiff, Nat.reduceSub, Bool.false_eq_true, if_true, if_false, ite_true, ite_false, List.length_cons, List.length_nil, Nat.zero_add, Nat.add_zero, and_true, true_and, true_or, or_true, and_self, Nat.le_refl, Nat.lt_irrefl, gI_sI, gL_sL, gQ_sQ, gI_sJ, gI_sL, gI_sQ, gL_sI, gL_sQ, gL_sJ, gQ_sI, gQ_sL, gQ_sJ, gN_sI, gN_sL, gN_sQ, gN_sJ, E_b2_0, E_cV_a, E_cV_b, E_c_0, E_getI_0, E_getL_0, E_i2l_0, E_inc_a, E_inc_b, E_jg_0, E_jl_0, E_jmp_0, E_jz_0, E_kk, E_l2_0, E_ldI_a, E_ldI_b, E_ldR_a, E_ldR_b, E_lsh_0, E_putI_0, E_putL_0, E_rV_0, E_stI_0, am_cc, am_nl, am_ok, am_pop, am_rt, am_set, cC_12, kX12_readsBytes, kX12_readsBytes_0, kX12_readsBytes_1, h0, hf0]
    refine c_takes (w := 8) b1 (by omega) hL ha hT hs hR (fun _ => hm) _ (by decide) (fun σ1 u1 f1 r1 m1 _ w1 => ?_)
    have g1 : fr2 PMD PML σ σ1 := f1.f2 (fun _ h => h)
    cases e : (tkN L 8 s 0 sm).2 with
    | none =>
      have hf : ¬ gI σ1 1332 0 = 0 := by rw [r1.2.1]; exact tkN_f e
      simp only [am_run_s, bt, lf, am_in, am_ar, am_fit, am_ld, am_ct, Nat.reduceLT, Nat.reduceEqDiff, reduceIte, Nat.reduceAdd, Nat.reduceLeDiff, Nat.reduceSub, Bool.false_eq_true, if_true, if_false, ite_true, ite_false, List.length_cons, List.length_nil, Nat.zero_add, Nat.add_zero, and_true, true_and, true_or, or_true, and_self, Nat.le_refl, Nat.lt_irrefl, gI_sI, gL_sL, gQ_sQ, gI_sJ, gI_sL, gI_sQ, gL_sI, gL_sQ, gL_sJ, gQ_sI, gQ_sL, gQ_sJ, gN_sI, gN_sL, gN_sQ, gN_sJ, E_b2_0, E_cV_a, E_cV_b, E_c_0, E_getI_0, E_getL_0, E_i2l_0, E_inc_a, E_inc_b, E_jg_0, E_jl_0, E_jmp_0, E_jz_0, E_kk, E_l2_0, E_ldI_a, E_ldI_b, E_ldR_a, E_ldR_b, E_lsh_0, E_putI_0, E_putL_0, E_rV_0, E_stI_0, am_cc, am_nl, am_ok, am_pop, am_rt, am_set, cC_12, kX12_readsBytes, kX12_readsBytes_0, kX12_readsBytes_1, hf, nI_1]
      rw [hX12_readsBytes 8]
      by_cases z : nI (i + 1) < nI k
      · simp only [am_run_s, bt, lf, am_in, am_ar, am_fit, am_ld, am_ct, Nat.reduceLT, Nat.reduceEqDiff, reduceIte, Nat.reduceAdd, Nat.reduceLeDiff, Nat.reduceSub, Bool.false_eq_true, if_true, if_false, ite_true, ite_false, List.length_cons, List.length_nil, Nat.zero_add, Nat.add_zero, and_true, true_and, true_or, or_true, and_self, Nat.le_refl, Nat.lt_irrefl, gI_sI, gL_sL, gQ_sQ, gI_sJ, gI_sL, gI_sQ, gL_sI, gL_sQ, gL_sJ, gQ_sI, gQ_sL, gQ_sJ, gN_sI, gN_sL, gN_sQ, gN_sJ, E_b2_0, E_cV_a, E_cV_b, E_c_0, E_getI_0, E_getL_0, E_i2l_0, E_inc_a, E_inc_b, E_jg_0, E_jl_0, E_jmp_0, E_jz_0, E_kk, E_l2_0, E_ldI_a, E_ldI_b, E_ldR_a, E_ldR_b, E_lsh_0, E_putI_0, E_putL_0, E_rV_0, E_stI_0, am_cc, am_nl, am_ok, am_pop, am_rt, am_set, cC_12, kX12_readsBytes, kX12_readsBytes_0, kX12_readsBytes_1, hf, z]
        exact hF σ1 _ v g1 (bytP_n e w v) r1 (tkN_f e) (by rw [f1.gl]; exact hv)
      · simp only [am_run_s, bt, lf, am_in, am_ar, am_fit, am_ld, am_ct, Nat.reduceLT, Nat.reduceEqDiff, reduceIte, Nat.reduceAdd, Nat.reduceLeDiff, Nat.reduceSub, Bool.false_eq_true, if_true, if_false, ite_true, ite_false, List.length_cons, List.length_nil, Nat.zero_add, Nat.add_zero, and_true, true_and, true_or, or_true, and_self, Nat.le_refl, Nat.lt_irrefl, gI_sI, gL_sL, gQ_sQ, gI_sJ, gI_sL, gI_sQ, gL_sI, gL_sQ, gL_sJ, gQ_sI, gQ_sL, gQ_sJ, gN_sI, gN_sL, gN_sQ, gN_sJ, E_b2_0, E_cV_a, E_cV_b, E_c_0, E_getI_0, E_getL_0, E_i2l_0, E_inc_a, E_inc_b, E_jg_0, E_jl_0, E_jmp_0, E_jz_0, E_kk, E_l2_0, E_ldI_a, E_ldI_b, E_ldR_a, E_ldR_b, E_lsh_0, E_putI_0, E_putL_0, E_rV_0, E_stI_0, am_cc, am_nl, am_ok, am_pop, am_rt, am_set, cC_12, kX12_readsBytes, kX12_readsBytes_0, kX12_readsBytes_1, z]
        exact hF σ1 _ v g1 (bytP_n e w v) r1 (tkN_f e) (by rw [f1.gl]; exact hv)
    | some p =>
      rw [w1 p e]
      have v1 := RV_tkN ha hs e
      have hf : gI σ1 1332 0 = 0 := by rw [r1.2.1]; exact v1.2.1
      have hv1 : gL σ1 1340 0 = v := by rw [f1.gl]; exact hv
      simp only [am_run_s, bt, lf, am_in, am_ar, am_fit, am_ld, am_ct, Nat.reduceLT, Nat.reduceEqDiff, reduceIte, Nat.reduceAdd, Nat.reduceLeDiff, Nat.reduceSub, Bool.false_eq_true, if_true, if_false, ite_true, ite_false, List.length_cons, List.length_nil, Nat.zero_add, Nat.add_zero, and_true, true_and, true_or, or_true, and_self, Nat.le_refl, Nat.lt_irrefl, gI_sI, gL_sL, gQ_sQ, gI_sJ, gI_sL, gI_sQ, gL_sI, gL_sQ, gL_sJ, gQ_sI, gQ_sL, gQ_sJ, gN_sI, gN_sL, gN_sQ, gN_sJ, E_b2_0, E_cV_a, E_cV_b, E_c_0, E_getI_0, E_getL_0, E_i2l_0, E_inc_a, E_inc_b, E_jg_0, E_jl_0, E_jmp_0, E_jz_0, E_kk, E_l2_0, E_ldI_a, E_ldI_b, E_ldR_a, E_ldR_b, E_lsh_0, E_putI_0, E_putL_0, E_rV_0, E_stI_0, am_cc, am_nl, am_ok, am_pop, am_rt, am_set, cC_12, kX12_readsBytes, kX12_readsBytes_0, kX12_readsBytes_1, hf, hv1, nI_1]
      have g2 : fr2 PMD PML σ (sL σ1 1340 0 ((v <<< ((8 : Int32).toInt64 &&& 63)) ||| p.1.toInt64)) := g1.sl rfl
      rw [bytP_s e] at hF hS
      exact ih (i + 1) _ (tkN L 8 s 0 sm).1 p.2 _ _ (by omega) (hT.f2 g2 rfl rfl) v1 ⟨r1.1, r1.2.1, r1.2.2.1, r1.2.2.2.1, r1.2.2.2.2⟩ (m1 rfl p e) rfl (fun σ' s' v' g e' => hF σ' s' v' (g2.tr g) e') (fun σ' s' sm' v' g e' => hS σ' s' sm' v' (g2.tr g) e')
theorem c_readsBytes {σ : HS} {L : List Int32} {s : RS} {sm r : Int32} {Q : PO} (hL : L.length ≤ 2000) (ha : ab L) (hT : TPM σ L) (hs : RV L s) (hR : RMd σ s) (hm : gI σ 1335 0 = sm) (hn : gI σ 1337 0 = -1) (hv : gL σ 1340 0 = 0)
    (hF : ∀ σ' o, fr2 PMC PML σ σ' → rd3 L s sm r = o → omp σ' o.1 → ¬ o.1.2.1 = 0 → gI σ' 1337 0 = o.2.2.1 → gL σ' 1340 0 = o.2.2.2.2 → o.2.1 = r ∧ o.2.2.2.1 = -1 → Q none σ')
    (hS : ∀ σ' s' sm' n v, fr2 PMC PML σ σ' → RV L s' → RMd σ' s' → gI σ' 1335 0 = sm' → gI σ' 1337 0 = n → gL σ' 1340 0 = v → rd3 L s sm r = rd5 L s' sm' r n v → Q none σ') : MM 170 [.inr (.inr (some (12, 0)))] σ Q := by
  rw [eX12_readsBytes 26]
  simp only [am_run_s, bt, lf, am_in, am_ar, am_fit, am_ld, am_ct, Nat.reduceLT, Nat.reduceEqDiff, reduceIte, Nat.reduceAdd, Nat.reduceLeDiff, Nat.reduceSub, Bool.false_eq_true, if_true, if_false, ite_true, ite_false, List.length_cons, List.length_nil, Nat.zero_add, Nat.add_zero, and_true, true_and, true_or, or_true, and_self, Nat.le_refl, Nat.lt_irrefl, gI_sI, gL_sL, gQ_sQ, gI_sJ, gI_sL, gI_sQ, gL_sI, gL_sQ, gL_sJ, gQ_sI, gQ_sL, gQ_sJ, gN_sI, gN_sL, gN_sQ, gN_sJ, E_b2_0, E_cV_a, E_cV_b, E_c_0, E_getI_0, E_getL_0, E_i2l_0, E_inc_a, E_inc_b, E_jg_0, E_jl_0, E_jmp_0, E_jz_0, E_kk, E_l2_0, E_ldI_a, E_ldI_b, E_ldR_a, E_ldR_b, E_lsh_0, E_putI_0, E_putL_0, E_rV_0, E_stI_0, am_cc, am_nl, am_ok, am_pop, am_rt, am_set, cC_12, kX12_readsBytes, kX12_readsBytes_0, kX12_readsBytes_1]
  refine c_takes (w := 4) b1 (by omega) hL ha hT hs hR (fun _ => hm) _ (by decide) (fun σ1 u1 f1 r1 m1 _ w1 => ?_)
  cases e : (tkN L 4 s 0 sm).2 with
  | none =>
    have hf : ¬ gI σ1 1332 0 = 0 := by rw [r1.2.1]; exact tkN_f e
    simp only [am_run_s, bt, lf, am_in, am_ar, am_fit, am_ld, am_ct, Nat.reduceLT, Nat.reduceEqDiff, reduceIte, Nat.reduceAdd, Nat.reduceLeDiff, Nat.reduceSub, Bool.false_eq_true, if_true, if_false, ite_true, ite_false, List.length_cons, List.length_nil, Nat.zero_add, Nat.add_zero, and_true, true_and, true_or, or_true, and_self, Nat.le_refl, Nat.lt_irrefl, gI_sI, gL_sL, gQ_sQ, gI_sJ, gI_sL, gI_sQ, gL_sI, gL_sQ, gL_sJ, gQ_sI, gQ_sL, gQ_sJ, gN_sI, gN_sL, gN_sQ, gN_sJ, E_b2_0, E_cV_a, E_cV_b, E_c_0, E_getI_0, E_getL_0, E_i2l_0, E_inc_a, E_inc_b, E_jg_0, E_jl_0, E_jmp_0, E_jz_0, E_kk, E_l2_0, E_ldI_a, E_ldI_b, E_ldR_a, E_ldR_b, E_lsh_0, E_putI_0, E_putL_0, E_rV_0, E_stI_0, am_cc, am_nl, am_ok, am_pop, am_rt, am_set, cC_12, kX12_readsBytes, kX12_readsBytes_0, kX12_readsBytes_1, hf]
    refine hF σ1 (oF (tkN L 4 s 0 sm).1 r (-1) (-1) 0) (f1.f2 PMC_le) (by unfold rd3; rw [e]) (r1.o _ _ _ _) (tkN_f e) (by rw [f1.gi rfl]; exact hn) (by rw [f1.gl]; exact hv) ⟨rfl, rfl⟩
  | some p =>
    rw [w1 p e]
    obtain ⟨y, y1, y2⟩ := tkN_v (x := 0) ha hs e
    have v1 := RV_tkN ha hs e
    have hf : gI σ1 1332 0 = 0 := by rw [r1.2.1]; exact v1.2.1
    have hv1 : gL σ1 1340 0 = 0 := by rw [f1.gl]; exact hv
    by_cases q : 8 < p.1
    · have hf' : gI (sI σ1 1337 0 p.1) 1332 0 = 0 := by simp only [gI_sI, gL_sL, gQ_sQ, gI_sJ, gI_sL, gI_sQ, gL_sI, gL_sQ, gL_sJ, gQ_sI, gQ_sL, gQ_sJ, gN_sI, gN_sL, gN_sQ, gN_sJ, Nat.reduceLT, Nat.reduceEqDiff, reduceIte, Nat.reduceAdd, Nat.reduceLeDiff, Nat.reduceSub, Bool.false_eq_true, if_true, if_false, ite_true, ite_false, List.length_cons, List.length_nil, Nat.zero_add, Nat.add_zero, and_true, true_and, true_or, or_true, and_self, Nat.le_refl, Nat.lt_irrefl]; exact hf
      simp only [am_run_s, bt, lf, am_in, am_ar, am_fit, am_ld, am_ct, Nat.reduceLT, Nat.reduceEqDiff, reduceIte, Nat.reduceAdd, Nat.reduceLeDiff, Nat.reduceSub, Bool.false_eq_true, if_true, if_false, ite_true, ite_false, List.length_cons, List.length_nil, Nat.zero_add, Nat.add_zero, and_true, true_and, true_or, or_true, and_self, Nat.le_refl, Nat.lt_irrefl, gI_sI, gL_sL, gQ_sQ, gI_sJ, gI_sL, gI_sQ, gL_sI, gL_sQ, gL_sJ, gQ_sI, gQ_sL, gQ_sJ, gN_sI, gN_sL, gN_sQ, gN_sJ, E_b2_0, E_cV_a, E_cV_b, E_c_0, E_getI_0, E_getL_0, E_i2l_0, E_inc_a, E_inc_b, E_jg_0, E_jl_0, E_jmp_0, E_jz_0, E_kk, E_l2_0, E_ldI_a, E_ldI_b, E_ldR_a, E_ldR_b, E_lsh_0, E_putI_0, E_putL_0, E_rV_0, E_stI_0, am_cc, am_nl, am_ok, am_pop, am_rt, am_set, cC_12, kX12_readsBytes, kX12_readsBytes_0, kX12_readsBytes_1, hf, q, r1.1, ↓s_faults _ _ _ _ hf']
      have h1 := tkN_1 e
      have g0 : fr2 PMC PML σ (sI (sI (sI σ1 1337 0 p.1) 1332 0 3) 1331 0 (nI (tkN L 4 s 0 sm).1.1 - 1)) := (((f1.f2 PMC_le).si rfl).si rfl).si rfl
      refine hF _ (((tkN L 4 s 0 sm).1.1 - 1, 3, (tkN L 4 s 0 sm).1.2.2.2.2), r, p.1, -1, 0) g0 (by unfold rd3; rw [e]; dsimp only; rw [if_pos q]) ⟨?_, ?_, ?_⟩ (by show ¬ (3 : Int32) = 0; decide) ?_ ?_ ⟨rfl, rfl⟩
      · simp only [gI_sI, gL_sL, gQ_sQ, gI_sJ, gI_sL, gI_sQ, gL_sI, gL_sQ, gL_sJ, gQ_sI, gQ_sL, gQ_sJ, gN_sI, gN_sL, gN_sQ, gN_sJ, Nat.reduceLT, Nat.reduceEqDiff, reduceIte, Nat.reduceAdd, Nat.reduceLeDiff, Nat.reduceSub, Bool.false_eq_true, if_true, if_false, ite_true, ite_false, List.length_cons, List.length_nil, Nat.zero_add, Nat.add_zero, and_true, true_and, true_or, or_true, and_self, Nat.le_refl, Nat.lt_irrefl]
        rw [one', pk_sub h1]
      · simp only [gI_sI, gL_sL, gQ_sQ, gI_sJ, gI_sL, gI_sQ, gL_sI, gL_sQ, gL_sJ, gQ_sI, gQ_sL, gQ_sJ, gN_sI, gN_sL, gN_sQ, gN_sJ, Nat.reduceLT, Nat.reduceEqDiff, reduceIte, Nat.reduceAdd, Nat.reduceLeDiff, Nat.reduceSub, Bool.false_eq_true, if_true, if_false, ite_true, ite_false, List.length_cons, List.length_nil, Nat.zero_add, Nat.add_zero, and_true, true_and, true_or, or_true, and_self, Nat.le_refl, Nat.lt_irrefl]
      · simp only [gI_sI, gL_sL, gQ_sQ, gI_sJ, gI_sL, gI_sQ, gL_sI, gL_sQ, gL_sJ, gQ_sI, gQ_sL, gQ_sJ, gN_sI, gN_sL, gN_sQ, gN_sJ, Nat.reduceLT, Nat.reduceEqDiff, reduceIte, Nat.reduceAdd, Nat.reduceLeDiff, Nat.reduceSub, Bool.false_eq_true, if_true, if_false, ite_true, ite_false, List.length_cons, List.length_nil, Nat.zero_add, Nat.add_zero, and_true, true_and, true_or, or_true, and_self, Nat.le_refl, Nat.lt_irrefl]; exact r1.2.2.2.2
      · simp only [gI_sI, gL_sL, gQ_sQ, gI_sJ, gI_sL, gI_sQ, gL_sI, gL_sQ, gL_sJ, gQ_sI, gQ_sL, gQ_sJ, gN_sI, gN_sL, gN_sQ, gN_sJ, Nat.reduceLT, Nat.reduceEqDiff, reduceIte, Nat.reduceAdd, Nat.reduceLeDiff, Nat.reduceSub, Bool.false_eq_true, if_true, if_false, ite_true, ite_false, List.length_cons, List.length_nil, Nat.zero_add, Nat.add_zero, and_true, true_and, true_or, or_true, and_self, Nat.le_refl, Nat.lt_irrefl]
      · exact hv1
    · have hy : y ≤ 8 := by
        rcases Nat.lt_or_ge 8 y with z | z
        · exact absurd (by rw [y1, n8]; exact nI_lt z (by omega)) q
        · exact z
      have g0 : fr2 PMC PML σ (sI σ1 1337 0 p.1) := (f1.f2 PMC_le).si rfl
      have ed : rd3 L s sm r = rd4 L (tkN L 4 s 0 sm).1 p.2 r p.1 := by unfold rd3; rw [e]; dsimp only; rw [if_neg q]
      rw [ed] at hF hS
      have ek : p.1.toNatClampNeg = y := by rw [y1, nI_clamp (by omega)]
      have q' : ¬ 8 < nI y := by rw [← y1]; exact q
      simp only [am_run_s, bt, lf, am_in, am_ar, am_fit, am_ld, am_ct, Nat.reduceLT, Nat.reduceEqDiff, reduceIte, Nat.reduceAdd, Nat.reduceLeDiff, Nat.reduceSub, Bool.false_eq_true, if_true, if_false, ite_true, ite_false, List.length_cons, List.length_nil, Nat.zero_add, Nat.add_zero, and_true, true_and, true_or, or_true, and_self, Nat.le_refl, Nat.lt_irrefl, gI_sI, gL_sL, gQ_sQ, gI_sJ, gI_sL, gI_sQ, gL_sI, gL_sQ, gL_sJ, gQ_sI, gQ_sL, gQ_sJ, gN_sI, gN_sL, gN_sQ, gN_sJ, E_b2_0, E_cV_a, E_cV_b, E_c_0, E_getI_0, E_getL_0, E_i2l_0, E_inc_a, E_inc_b, E_jg_0, E_jl_0, E_jmp_0, E_jz_0, E_kk, E_l2_0, E_ldI_a, E_ldI_b, E_ldR_a, E_ldR_b, E_lsh_0, E_putI_0, E_putL_0, E_rV_0, E_stI_0, am_cc, am_nl, am_ok, am_pop, am_rt, am_set, cC_12, kX12_readsBytes, kX12_readsBytes_0, kX12_readsBytes_1, hf, y1, q']
      rw [y1] at g0
      have hT2 : TPM (sI σ1 1337 0 (nI y)) L := hT.f2 g0 rfl rfl
      refine l_readsBytes hy hL ha y 0 _ (tkN L 4 s 0 sm).1 p.2 0 _ (by omega) hT2 v1 ⟨r1.1, r1.2.1, r1.2.2.1, r1.2.2.2.1, r1.2.2.2.2⟩ (m1 rfl p e) hv1 (fun σ' s' v' g e' r' nf w' => ?_) (fun σ' s' sm' v' g e' v'' r' m' w' => ?_)
      · refine hF σ' (oF s' r p.1 (-1) v') (g0.tr (g.mo PMC_le)) ?_ (r'.o _ _ _ _) nf ?_ w' ⟨rfl, rfl⟩
        · unfold rd4; rw [ek, e']
        · rw [g.gi rfl]; exact y1.symm
      · refine hS σ' s' sm' p.1 v' (g0.tr (g.mo PMC_le)) v'' r' m' ?_ w' ?_
        · rw [g.gi rfl]; exact y1.symm
        · unfold rd4; rw [ek, e']
theorem tailP_s (L : List Int32) (w j pl : Nat) : tailP L (w + 1) j pl = if pl = L.length then (pl, 6) else if L.getD pl 0 = tailV j then tailP L w (j + 1) (pl + 1) else (pl, 5) := rfl
theorem l_readsTail {L : List Int32} {Q : PO} (hL : L.length ≤ 2000) : ∀ (w j pl : Nat) (σ : HS), j + w = 10 → pl ≤ L.length → TPM σ L → gI σ 1331 0 = nI pl → gI σ 1332 0 = 0 →
    (∀ σ', frm PMD σ σ' → gI σ' 1331 0 = nI (tailP L w j pl).1 → gI σ' 1332 0 = (tailP L w j pl).2 → gI σ' 1338 0 = gI σ 1338 0 → Q none σ') →
    am_T (kX12_readsTail S1) MM Q 2 [some (.inr (.inr (some (12, 0)))), some (.inl (nI j))] [] σ 0 0 := by
  intro w
  induction w with
  | zero =>
    intro j pl σ hj hpl hT hp hf hQ
    have e : j = 10 := by omega
    subst e
    rw [hX12_readsTail 6]
    have h0 : ¬ nI 10 < 10 := by decide
    simp only [am_run_s, bt, lf, am_in, am_ar, am_fit, am_ld, am_ct, Nat.reduceLT, Nat.reduceEqDiff, reduceIte, Nat.reduceAdd, Nat.reduceLeDiff, Nat.reduceSub, Bool.false_eq_true, if_true, if_false, ite_true, ite_false, List.length_cons, List.length_nil, Nat.zero_add, Nat.add_zero, and_true, true_and, true_or, or_true, and_self, Nat.le_refl, Nat.lt_irrefl, gI_sI, gL_sL, gQ_sQ, gI_sJ, gI_sL, gI_sQ, gL_sI, gL_sQ, gL_sJ, gQ_sI, gQ_sL, gQ_sJ, gN_sI, gN_sL, gN_sQ, gN_sJ, E_b2_0, E_cV_a, E_cV_b, E_c_0, E_dup_0, E_dup_1, E_getI_0, E_getR_0, E_iald_0, E_inc_a, E_inc_b, E_je_0, E_jl_0, E_jmp_0, E_jz_0, E_kk, E_ldI_a, E_ldI_b, E_ldR_a, E_ldR_b, E_putI_0, E_rV_0, E_stI_0, aL_53, am_cc, am_nl, am_ok, am_pop, am_rt, am_set, cC_12, cC_53, rR_1329, kX12_readsTail, h0]
    exact hQ σ frm.rf hp hf rfl
  | succ w ih =>
    intro j pl σ hj hpl hT hp hf hQ
    have h0 : nI j < 10 := by rw [n10]; exact nI_lt (by omega) (by omega)
    have n6 : ¬ (6 : Int32) = 0 := by decide
    have n5 : ¬ (5 : Int32) = 0 := by decide
    -- behind a fault the loop ends
    have fin : ∀ (σ' : HS), ¬ gI σ' 1332 0 = 0 → Q none σ' → am_T (kX12_readsTail S1) MM Q 2 [some (.inr (.inr (some (12, 0)))), some (.inl (nI (j + 1)))] [] σ' 0 0 := by
      intro σ' hz hq
      rw [hX12_readsTail 8]
      by_cases z : nI (j + 1) < 10
      · simp only [am_run_s, bt, lf, am_in, am_ar, am_fit, am_ld, am_ct, Nat.reduceLT, Nat.reduceEqDiff, reduceIte, Nat.reduceAdd, Nat.reduceLeDiff, Nat.reduceSub, Bool.false_eq_true, if_true, if_false, ite_true, ite_false, List.length_cons, List.length_nil, Nat.zero_add, Nat.add_zero, and_true, true_and, true_or, or_true, and_self, Nat.le_refl, Nat.lt_irrefl, gI_sI, gL_sL, gQ_sQ, gI_sJ, gI_sL, gI_sQ, gL_sI, gL_sQ, gL_sJ, gQ_sI, gQ_sL, gQ_sJ, gN_sI, gN_sL, gN_sQ, gN_sJ, E_b2_0, E_cV_a, E_cV_b, E_c_0, E_dup_0, E_dup_1, E_getI_0, E_getR_0, E_iald_0, E_inc_a, E_inc_b, E_je_0, E_jl_0, E_jmp_0, E_jz_0, E_kk, E_ldI_a, E_ldI_b, E_ldR_a, E_ldR_b, E_putI_0, E_rV_0, E_stI_0, aL_53, am_cc, am_nl, am_ok, am_pop, am_rt, am_set, cC_12, cC_53, rR_1329, kX12_readsTail, z, hz]; exact hq
      · simp only [am_run_s, bt, lf, am_in, am_ar, am_fit, am_ld, am_ct, Nat.reduceLT, Nat.reduceEqDiff, reduceIte, Nat.reduceAdd, Nat.reduceLeDiff, Nat.reduceSub, Bool.false_eq_true, if_true, if_false, ite_true, ite_false, List.length_cons, List.length_nil, Nat.zero_add, Nat.add_zero, and_true, true_and, true_or, or_true, and_self, Nat.le_refl, Nat.lt_irrefl, gI_sI, gL_sL, gQ_sQ, gI_sJ, gI_sL, gI_sQ, gL_sI, gL_sQ, gL_sJ, gQ_sI, gQ_sL, gQ_sJ, gN_sI, gN_sL, gN_sQ, gN_sJ, E_b2_0, E_cV_a, E_cV_b, E_c_0, E_dup_0, E_dup_1, E_getI_0, E_getR_0, E_iald_0, E_inc_a, E_inc_b, E_je_0, E_jl_0, E_jmp_0, E_jz_0, E_kk, E_ldI_a, E_ldI_b, E_ldR_a, E_ldR_b, E_putI_0, E_rV_0, E_stI_0, aL_53, am_cc, am_nl, am_ok, am_pop, am_rt, am_set, cC_12, cC_53, rR_1329, kX12_readsTail, z]; exact hq
    rw [hX12_readsTail 34]
    rw [tailP_s] at hQ
    by_cases q2 : pl = L.length
    · rw [if_pos q2] at hQ
      have k3 : (nI pl = nI L.length) = True := eq_true (by rw [q2])
      simp only [am_run_s, bt, lf, am_in, am_ar, am_fit, am_ld, am_ct, Nat.reduceLT, Nat.reduceEqDiff, reduceIte, Nat.reduceAdd, Nat.reduceLeDiff, Nat.reduceSub, Bool.false_eq_true, if_true, if_false, ite_true, ite_false, List.length_cons, List.length_nil, Nat.zero_add, Nat.add_zero, and_true, true_and, true_or, or_true, and_self, Nat.le_refl, Nat.lt_irrefl, gI_sI, gL_sL, gQ_sQ, gI_sJ, gI_sL, gI_sQ, gL_sI, gL_sQ, gL_sJ, gQ_sI, gQ_sL, gQ_sJ, gN_sI, gN_sL, gN_sQ, gN_sJ, E_b2_0, E_cV_a, E_cV_b, E_c_0, E_dup_0, E_dup_1, E_getI_0, E_getR_0, E_iald_0, E_inc_a, E_inc_b, E_je_0, E_jl_0, E_jmp_0, E_jz_0, E_kk, E_ldI_a, E_ldI_b, E_ldR_a, E_ldR_b, E_putI_0, E_rV_0, E_stI_0, aL_53, am_cc, am_nl, am_ok, am_pop, am_rt, am_set, cC_12, cC_53, rR_1329, kX12_readsTail, h0, hf, hp, hT.1, k3, ↓s_faults _ _ σ _ hf, nI_1]
      refine fin _ (by simp only [gI_sI, gL_sL, gQ_sQ, gI_sJ, gI_sL, gI_sQ, gL_sI, gL_sQ, gL_sJ, gQ_sI, gQ_sL, gQ_sJ, gN_sI, gN_sL, gN_sQ, gN_sJ, Nat.reduceLT, Nat.reduceEqDiff, reduceIte, Nat.reduceAdd, Nat.reduceLeDiff, Nat.reduceSub, Bool.false_eq_true, if_true, if_false, ite_true, ite_false, List.length_cons, List.length_nil, Nat.zero_add, Nat.add_zero, and_true, true_and, true_or, or_true, and_self, Nat.le_refl, Nat.lt_irrefl]; exact n6) (hQ _ ((frm.rf.si rfl).si rfl) ?_ ?_ ?_)
      · simp only [gI_sI, gL_sL, gQ_sQ, gI_sJ, gI_sL, gI_sQ, gL_sI, gL_sQ, gL_sJ, gQ_sI, gQ_sL, gQ_sJ, gN_sI, gN_sL, gN_sQ, gN_sJ, Nat.reduceLT, Nat.reduceEqDiff, reduceIte, Nat.reduceAdd, Nat.reduceLeDiff, Nat.reduceSub, Bool.false_eq_true, if_true, if_false, ite_true, ite_false, List.length_cons, List.length_nil, Nat.zero_add, Nat.add_zero, and_true, true_and, true_or, or_true, and_self, Nat.le_refl, Nat.lt_irrefl, q2]
      · simp only [gI_sI, gL_sL, gQ_sQ, gI_sJ, gI_sL, gI_sQ, gL_sI, gL_sQ, gL_sJ, gQ_sI, gQ_sL, gQ_sJ, gN_sI, gN_sL, gN_sQ, gN_sJ, Nat.reduceLT, Nat.reduceEqDiff, reduceIte, Nat.reduceAdd, Nat.reduceLeDiff, Nat.reduceSub, Bool.false_eq_true, if_true, if_false, ite_true, ite_false, List.length_cons, List.length_nil, Nat.zero_add, Nat.add_zero, and_true, true_and, true_or, or_true, and_self, Nat.le_refl, Nat.lt_irrefl]
      · simp only [gI_sI, gL_sL, gQ_sQ, gI_sJ, gI_sL, gI_sQ, gL_sI, gL_sQ, gL_sJ, gQ_sI, gQ_sL, gQ_sJ, gN_sI, gN_sL, gN_sQ, gN_sJ, Nat.reduceLT, Nat.reduceEqDiff, reduceIte, Nat.reduceAdd, Nat.reduceLeDiff, Nat.reduceSub, Bool.false_eq_true, if_true, if_false, ite_true, ite_false, List.length_cons, List.length_nil, Nat.zero_add, Nat.add_zero, and_true, true_and, true_or, or_true, and_self, Nat.le_refl, Nat.lt_irrefl]
    rw [if_neg q2] at hQ
    have k3 : (nI pl = nI L.length) = False := eq_false (fun z => q2 ((nI_eq (by omega) (by omega)).mp z))
    have k4 : vp_in (nI pl) 2000 := vp_in_nI (by omega) (by omega)
    have k5 : (nI pl).toNatClampNeg = pl := nI_clamp (by omega)
    have k6 := hT.2 pl (by omega)
    have f0 : frm PMD σ (sI σ 1331 0 (nI (pl + 1))) := frm.rf.si rfl
    have go : L.getD pl 0 = tailV j → am_T (kX12_readsTail S1) MM Q 2 [some (.inr (.inr (some (12, 0)))), some (.inl (nI (j + 1)))] [] (sI σ 1331 0 (nI (pl + 1))) 0 0 := by
      intro q3
      rw [if_pos q3] at hQ
      refine ih (j + 1) (pl + 1) _ (by omega) (by omega) (hT.fx f0 rfl rfl) rfl ?_ (fun σ' f1 a1 a2 a3 => hQ σ' (f0.tr f1) a1 a2 ?_)
      · rw [← hf]; rfl
      · rw [a3]; rfl
    have no : ¬ L.getD pl 0 = tailV j → am_T (kX12_readsTail S1) MM Q 2 [some (.inr (.inr (some (12, 0)))), some (.inl (nI (j + 1)))] [] (sI (sI σ 1332 0 5) 1331 0 (nI pl)) 0 0 := by
      intro q3
      rw [if_neg q3] at hQ
      refine fin _ (by simp only [gI_sI, gL_sL, gQ_sQ, gI_sJ, gI_sL, gI_sQ, gL_sI, gL_sQ, gL_sJ, gQ_sI, gQ_sL, gQ_sJ, gN_sI, gN_sL, gN_sQ, gN_sJ, Nat.reduceLT, Nat.reduceEqDiff, reduceIte, Nat.reduceAdd, Nat.reduceLeDiff, Nat.reduceSub, Bool.false_eq_true, if_true, if_false, ite_true, ite_false, List.length_cons, List.length_nil, Nat.zero_add, Nat.add_zero, and_true, true_and, true_or, or_true, and_self, Nat.le_refl, Nat.lt_irrefl]; exact n5) (hQ _ ((frm.rf.si rfl).si rfl) ?_ ?_ ?_)
      · simp only [gI_sI, gL_sL, gQ_sQ, gI_sJ, gI_sL, gI_sQ, gL_sI, gL_sQ, gL_sJ, gQ_sI, gQ_sL, gQ_sJ, gN_sI, gN_sL, gN_sQ, gN_sJ, Nat.reduceLT, Nat.reduceEqDiff, reduceIte, Nat.reduceAdd, Nat.reduceLeDiff, Nat.reduceSub, Bool.false_eq_true, if_true, if_false, ite_true, ite_false, List.length_cons, List.length_nil, Nat.zero_add, Nat.add_zero, and_true, true_and, true_or, or_true, and_self, Nat.le_refl, Nat.lt_irrefl]
      · simp only [gI_sI, gL_sL, gQ_sQ, gI_sJ, gI_sL, gI_sQ, gL_sI, gL_sQ, gL_sJ, gQ_sI, gQ_sL, gQ_sJ, gN_sI, gN_sL, gN_sQ, gN_sJ, Nat.reduceLT, Nat.reduceEqDiff, reduceIte, Nat.reduceAdd, Nat.reduceLeDiff, Nat.reduceSub, Bool.false_eq_true, if_true, if_false, ite_true, ite_false, List.length_cons, List.length_nil, Nat.zero_add, Nat.add_zero, and_true, true_and, true_or, or_true, and_self, Nat.le_refl, Nat.lt_irrefl]
      · simp only [gI_sI, gL_sL, gQ_sQ, gI_sJ, gI_sL, gI_sQ, gL_sI, gL_sQ, gL_sJ, gQ_sI, gQ_sL, gQ_sJ, gN_sI, gN_sL, gN_sQ, gN_sJ, Nat.reduceLT, Nat.reduceEqDiff, reduceIte, Nat.reduceAdd, Nat.reduceLeDiff, Nat.reduceSub, Bool.false_eq_true, if_true, if_false, ite_true, ite_false, List.length_cons, List.length_nil, Nat.zero_add, Nat.add_zero, and_true, true_and, true_or, or_true, and_self, Nat.le_refl, Nat.lt_irrefl]
    by_cases j1 : j = 1
    · have h5 : (nI j = 1) = True := eq_true (by rw [j1]; decide)
      have h6 : tailV j = 0 := if_pos j1
      rw [h6] at go no
      by_cases q3 : L.getD pl 0 = 0
      · simp only [am_run_s, bt, lf, am_in, am_ar, am_fit, am_ld, am_ct, Nat.reduceLT, Nat.reduceEqDiff, reduceIte, Nat.reduceAdd, Nat.reduceLeDiff, Nat.reduceSub, Bool.false_eq_true, if_true, if_false, ite_true, ite_false, List.length_cons, List.length_nil, Nat.zero_add, Nat.add_zero, and_true, true_and, true_or, or_true, and_self, Nat.le_refl, Nat.lt_irrefl, gI_sI, gL_sL, gQ_sQ, gI_sJ, gI_sL, gI_sQ, gL_sI, gL_sQ, gL_sJ, gQ_sI, gQ_sL, gQ_sJ, gN_sI, gN_sL, gN_sQ, gN_sJ, E_b2_0, E_cV_a, E_cV_b, E_c_0, E_dup_0, E_dup_1, E_getI_0, E_getR_0, E_iald_0, E_inc_a, E_inc_b, E_je_0, E_jl_0, E_jmp_0, E_jz_0, E_kk, E_ldI_a, E_ldI_b, E_ldR_a, E_ldR_b, E_putI_0, E_rV_0, E_stI_0, aL_53, am_cc, am_nl, am_ok, am_pop, am_rt, am_set, cC_12, cC_53, rR_1329, kX12_readsTail, h0, hf, hp, hT.1, k3, k4, k5, k6, h5, q3, nI_1]
        exact go q3
      · simp only [am_run_s, bt, lf, am_in, am_ar, am_fit, am_ld, am_ct, Nat.reduceLT, Nat.reduceEqDiff, reduceIte, Nat.reduceAdd, Nat.reduceLeDiff, Nat.reduceSub, Bool.false_eq_true, if_true, if_false, ite_true, ite_false, List.length_cons, List.length_nil, Nat.zero_add, Nat.add_zero, and_true, true_and, true_or, or_true, and_self, Nat.le_refl, Nat.lt_irrefl, gI_sI, gL_sL, gQ_sQ, gI_sJ, gI_sL, gI_sQ, gL_sI, gL_sQ, gL_sJ, gQ_sI, gQ_sL, gQ_sJ, gN_sI, gN_sL, gN_sQ, gN_sJ, E_b2_0, E_cV_a, E_cV_b, E_c_0, E_dup_0, E_dup_1, E_getI_0, E_getR_0, E_iald_0, E_inc_a, E_inc_b, E_je_0, E_jl_0, E_jmp_0, E_jz_0, E_kk, E_ldI_a, E_ldI_b, E_ldR_a, E_ldR_b, E_putI_0, E_rV_0, E_stI_0, aL_53, am_cc, am_nl, am_ok, am_pop, am_rt, am_set, cC_12, cC_53, rR_1329, kX12_readsTail, h0, hf, hp, hT.1, k3, k4, k5, k6, h5, q3, ↓s_faults _ _ σ _ hf, nI_1]
        exact no q3
    · have h5 : (nI j = 1) = False := eq_false (fun e => j1 ((nI_eq (by omega) (by omega)).1 (e.trans (by decide : (1 : Int32) = nI 1))))
      have h6 : tailV j = 1 := if_neg j1
      rw [h6] at go no
      by_cases q3 : L.getD pl 0 = 1
      · simp only [am_run_s, bt, lf, am_in, am_ar, am_fit, am_ld, am_ct, Nat.reduceLT, Nat.reduceEqDiff, reduceIte, Nat.reduceAdd, Nat.reduceLeDiff, Nat.reduceSub, Bool.false_eq_true, if_true, if_false, ite_true, ite_false, List.length_cons, List.length_nil, Nat.zero_add, Nat.add_zero, and_true, true_and, true_or, or_true, and_self, Nat.le_refl, Nat.lt_irrefl, gI_sI, gL_sL, gQ_sQ, gI_sJ, gI_sL, gI_sQ, gL_sI, gL_sQ, gL_sJ, gQ_sI, gQ_sL, gQ_sJ, gN_sI, gN_sL, gN_sQ, gN_sJ, E_b2_0, E_cV_a, E_cV_b, E_c_0, E_dup_0, E_dup_1, E_getI_0, E_getR_0, E_iald_0, E_inc_a, E_inc_b, E_je_0, E_jl_0, E_jmp_0, E_jz_0, E_kk, E_ldI_a, E_ldI_b, E_ldR_a, E_ldR_b, E_putI_0, E_rV_0, E_stI_0, aL_53, am_cc, am_nl, am_ok, am_pop, am_rt, am_set, cC_12, cC_53, rR_1329, kX12_readsTail, h0, hf, hp, hT.1, k3, k4, k5, k6, h5, q3, nI_1]
        exact go q3
      · simp only [am_run_s, bt, lf, am_in, am_ar, am_fit, am_ld, am_ct, Nat.reduceLT, Nat.reduceEqDiff, reduceIte, Nat.reduceAdd, Nat.reduceLeDiff, Nat.reduceSub, Bool.false_eq_true, if_true, if_false, ite_true, ite_false, List.length_cons, List.length_nil, Nat.zero_add, Nat.add_zero, and_true, true_and, true_or, or_true, and_self, Nat.le_refl, Nat.lt_irrefl, gI_sI, gL_sL, gQ_sQ, gI_sJ, gI_sL, gI_sQ, gL_sI, gL_sQ, gL_sJ, gQ_sI, gQ_sL, gQ_sJ, gN_sI, gN_sL, gN_sQ, gN_sJ, E_b2_0, E_cV_a, E_cV_b, E_c_0, E_dup_0, E_dup_1, E_getI_0, E_getR_0, E_iald_0, E_inc_a, E_inc_b, E_je_0, E_jl_0, E_jmp_0, E_jz_0, E_kk, E_ldI_a, E_ldI_b, E_ldR_a, E_ldR_b, E_putI_0, E_rV_0, E_stI_0, aL_53, am_cc, am_nl, am_ok, am_pop, am_rt, am_set, cC_12, cC_53, rR_1329, kX12_readsTail, h0, hf, hp, hT.1, k3, k4, k5, k6, h5, q3, ↓s_faults _ _ σ _ hf, nI_1]
        exact no q3
