/-! ===== the run: the reference: notes, silences ===== -/
def shf (g : Nat → Int32) (v : Int32) (i : Nat) : Int32 := if i = 0 then v else if i ≤ 39 then g (i - 1) else g i
def PLG (f : Nat) : Bool := Nat.ble 55 f && Nat.ble f 58
/-- the first places have not moved yet -/
def shk (k : Nat) (g : Nat → Int32) (i : Nat) : Int32 := if k < i ∧ i ≤ 39 then g (i - 1) else g i
theorem shk_s {k : Nat} {g g' : Nat → Int32} (hk : k + 1 ≤ 39) (h : ∀ i, g' i = shk (k + 1) g i) (i : Nat) : (if i = k + 1 then g' k else g' i) = shk k g i := by
  unfold shk at h ⊢
  by_cases e : i = k + 1
  · rw [if_pos e, if_pos (by omega), h k, if_neg (by omega), e]; rfl
  · rw [if_neg e, h i]
    by_cases e2 : k + 1 < i ∧ i ≤ 39
    · rw [if_pos e2, if_pos (by omega)]
    · rw [if_neg e2, if_neg (by omega)]
theorem l_notes {σ0 : HS} {tm : Int32} {Q : PO} (hX : ∀ σ', frm PLG σ0 σ' → (∀ i, gI σ' 55 i = shk 0 (gI σ0 55) i) → (∀ i, gI σ' 56 i = shk 0 (gI σ0 56) i) → (∀ i, gI σ' 57 i = shk 0 (gI σ0 57) i) → (∀ i, gI σ' 58 i = shk 0 (gI σ0 58) i) → am_T (kX12_notes S1) MM Q 69 [some rM, some (.inl tm), some (.inl (nI 0))] [] σ' 0 0) :
    ∀ (k : Nat) (σ : HS), k ≤ 39 → frm PLG σ0 σ → (∀ i, gI σ 55 i = shk k (gI σ0 55) i) → (∀ i, gI σ 56 i = shk k (gI σ0 56) i) → (∀ i, gI σ 57 i = shk k (gI σ0 57) i) → (∀ i, gI σ 58 i = shk k (gI σ0 58) i) → am_T (kX12_notes S1) MM Q 3 [some rM, some (.inl tm), some (.inl (nI k))] [] σ 0 0 := by
  intro k
  induction k with
  | zero =>
    intro σ hk f0 a1 a2 a3 a4
    rw [hX12_notes 1]
    have h0 : ¬ 0 < nI 0 := by decide
    simp only [am_run_s, bt, lf, am_in, am_ar, am_fit, am_ld, am_ct, Nat.reduceLT, Nat.reduceEqDiff, reduceIte, Nat.reduceAdd, Nat.reduceLeDiff, Nat.reduceSub, Bool.false_eq_true, if_true, if_false, ite_true, ite_false, List.length_cons, List.length_nil, Nat.zero_add, Nat.add_zero, and_true, true_and, true_or, or_true, and_self, Nat.le_refl, Nat.lt_irrefl, gI_sI, gL_sL, gQ_sQ, gI_sJ, gI_sL, gI_sQ, gL_sI, gL_sQ, gL_sJ, gQ_sI, gQ_sL, gQ_sJ, gN_sI, gN_sL, gN_sQ, gN_sJ, E_b2_0, E_c_0, E_dup_0, E_dup_1, E_getI_0, E_getR_0, E_iald_0, E_iast_0, E_inc_a, E_inc_b, E_jl_0, E_jmp_0, E_jp_0, E_ldI_a, E_ldI_b, E_ldR_a, E_ldR_b, E_putI_0, E_rV_0, E_stI_0, aL_55, aL_56, aL_57, aL_58, am_nl, am_ok, am_set, cC_12, cC_55, cC_56, cC_57, cC_58, rR_1353, rR_1354, rR_1355, rR_1356, kX12_notes, kX12_notes_0, kX12_notes_1, am_run_z, h0]
    exact hX σ f0 a1 a2 a3 a4
  | succ k ih =>
    intro σ hk f0 a1 a2 a3 a4
    have h0 : 0 < nI (k + 1) := nI_gt0 (by omega) (by omega)
    have h3 : vp_in (nI (k + 1)) 40 := vp_in_nI (by omega) (by omega)
    have h4 : (nI (k + 1)).toNatClampNeg = k + 1 := nI_clamp (by omega)
    have h5 : vp_in (nI k) 40 := vp_in_nI (by omega) (by omega)
    have h6 : (nI k).toNatClampNeg = k := nI_clamp (by omega)
    rw [hX12_notes 44]
    simp only [am_run_s, bt, lf, am_in, am_ar, am_fit, am_ld, am_ct, Nat.reduceLT, Nat.reduceEqDiff, reduceIte, Nat.reduceAdd, Nat.reduceLeDiff, Nat.reduceSub, Bool.false_eq_true, if_true, if_false, ite_true, ite_false, List.length_cons, List.length_nil, Nat.zero_add, Nat.add_zero, and_true, true_and, true_or, or_true, and_self, Nat.le_refl, Nat.lt_irrefl, gI_sI, gL_sL, gQ_sQ, gI_sJ, gI_sL, gI_sQ, gL_sI, gL_sQ, gL_sJ, gQ_sI, gQ_sL, gQ_sJ, gN_sI, gN_sL, gN_sQ, gN_sJ, E_b2_0, E_c_0, E_dup_0, E_dup_1, E_getI_0, E_getR_0, E_iald_0, E_iast_0, E_inc_a, E_inc_b, E_jl_0, E_jmp_0, E_jp_0, E_ldI_a, E_ldI_b, E_ldR_a, E_ldR_b, E_putI_0, E_rV_0, E_stI_0, aL_55, aL_56, aL_57, aL_58, am_nl, am_ok, am_set, cC_12, cC_55, cC_56, cC_57, cC_58, rR_1353, rR_1354, rR_1355, rR_1356, kX12_notes, kX12_notes_0, kX12_notes_1, h0, h3, h4, h5, h6, nI_m1, pk_m1]
    refine ih _ (by omega) ((((f0.si rfl).si rfl).si rfl).si rfl) (fun i => ?_) (fun i => ?_) (fun i => ?_) (fun i => ?_)
    · simp only [gI_sI, gL_sL, gQ_sQ, gI_sJ, gI_sL, gI_sQ, gL_sI, gL_sQ, gL_sJ, gQ_sI, gQ_sL, gQ_sJ, gN_sI, gN_sL, gN_sQ, gN_sJ, Nat.reduceLT, Nat.reduceEqDiff, reduceIte, Nat.reduceAdd, Nat.reduceLeDiff, Nat.reduceSub, Bool.false_eq_true, if_true, if_false, ite_true, ite_false, List.length_cons, List.length_nil, Nat.zero_add, Nat.add_zero, and_true, true_and, true_or, or_true, and_self, Nat.le_refl, Nat.lt_irrefl]; exact shk_s hk a1 i
    · simp only [gI_sI, gL_sL, gQ_sQ, gI_sJ, gI_sL, gI_sQ, gL_sI, gL_sQ, gL_sJ, gQ_sI, gQ_sL, gQ_sJ, gN_sI, gN_sL, gN_sQ, gN_sJ, Nat.reduceLT, Nat.reduceEqDiff, reduceIte, Nat.reduceAdd, Nat.reduceLeDiff, Nat.reduceSub, Bool.false_eq_true, if_true, if_false, ite_true, ite_false, List.length_cons, List.length_nil, Nat.zero_add, Nat.add_zero, and_true, true_and, true_or, or_true, and_self, Nat.le_refl, Nat.lt_irrefl]; exact shk_s hk a2 i
    · simp only [gI_sI, gL_sL, gQ_sQ, gI_sJ, gI_sL, gI_sQ, gL_sI, gL_sQ, gL_sJ, gQ_sI, gQ_sL, gQ_sJ, gN_sI, gN_sL, gN_sQ, gN_sJ, Nat.reduceLT, Nat.reduceEqDiff, reduceIte, Nat.reduceAdd, Nat.reduceLeDiff, Nat.reduceSub, Bool.false_eq_true, if_true, if_false, ite_true, ite_false, List.length_cons, List.length_nil, Nat.zero_add, Nat.add_zero, and_true, true_and, true_or, or_true, and_self, Nat.le_refl, Nat.lt_irrefl]; exact shk_s hk a3 i
    · simp only [gI_sI, gL_sL, gQ_sQ, gI_sJ, gI_sL, gI_sQ, gL_sI, gL_sQ, gL_sJ, gQ_sI, gQ_sL, gQ_sJ, gN_sI, gN_sL, gN_sQ, gN_sJ, Nat.reduceLT, Nat.reduceEqDiff, reduceIte, Nat.reduceAdd, Nat.reduceLeDiff, Nat.reduceSub, Bool.false_eq_true, if_true, if_false, ite_true, ite_false, List.length_cons, List.length_nil, Nat.zero_add, Nat.add_zero, and_true, true_and, true_or, or_true, and_self, Nat.le_refl, Nat.lt_irrefl]; exact shk_s hk a4 i
def nts (m : HS) (tm : Int32) : HS := sI (sJ (sJ (sJ (sJ m 55 (shf (gI m 55) (gI m 1344 0))) 56 (shf (gI m 56) (gI m 1345 0))) 57 (shf (gI m 57) (gI m 1342 0))) 58 (shf (gI m 58) tm)) 1357 0 (if gI m 1357 0 < 40 then gI m 1357 0 + 1 else gI m 1357 0)
theorem shf_e {g g' h : Nat → Int32} {v : Int32} (hg : ∀ i, g i = h i) (a : ∀ i, g' i = shk 0 g i) (i : Nat) : (if i = 0 then v else g' i) = shf h v i := by
  unfold shf
  by_cases e : i = 0
  · rw [if_pos e, if_pos e]
  · rw [if_neg e, if_neg e, a i]
    unfold shk
    by_cases e2 : i ≤ 39
    · rw [if_pos ⟨by omega, e2⟩, if_pos e2, hg]
    · rw [if_neg (by omega), if_neg e2, hg]
theorem r_notes (m : HS) (tm : Int32) : Rg 184 [.inl tm] m (nts m tm) := by
  intro σ Q hm hQ
  rw [eX12_notes 2]
  simp only [am_run_s, bt, lf, am_in, am_ar, am_fit, am_ld, am_ct, Nat.reduceLT, Nat.reduceEqDiff, reduceIte, Nat.reduceAdd, Nat.reduceLeDiff, Nat.reduceSub, Bool.false_eq_true, if_true, if_false, ite_true, ite_false, List.length_cons, List.length_nil, Nat.zero_add, Nat.add_zero, and_true, true_and, true_or, or_true, and_self, Nat.le_refl, Nat.lt_irrefl, gI_sI, gL_sL, gQ_sQ, gI_sJ, gI_sL, gI_sQ, gL_sI, gL_sQ, gL_sJ, gQ_sI, gQ_sL, gQ_sJ, gN_sI, gN_sL, gN_sQ, gN_sJ, E_b2_0, E_c_0, E_dup_0, E_dup_1, E_getI_0, E_getR_0, E_iald_0, E_iast_0, E_inc_a, E_inc_b, E_jl_0, E_jmp_0, E_jp_0, E_ldI_a, E_ldI_b, E_ldR_a, E_ldR_b, E_putI_0, E_rV_0, E_stI_0, aL_55, aL_56, aL_57, aL_58, am_nl, am_ok, am_set, cC_12, cC_55, cC_56, cC_57, cC_58, rR_1353, rR_1354, rR_1355, rR_1356, kX12_notes, kX12_notes_0, kX12_notes_1]
  refine l_notes (σ0 := σ) (fun σ1 f1 a1 a2 a3 a4 => ?_) 39 σ (Nat.le_refl _) frm.rf (fun i => ?_) (fun i => ?_) (fun i => ?_) (fun i => ?_)
  · have h3 : vp_in 0 40 := (vp_in_nI (by omega) (by omega) : vp_in (nI 0) 40)
    have h4 : (0 : Int32).toNatClampNeg = 0 := by decide
    have c1 : gI σ1 1344 0 = gI m 1344 0 := by rw [f1.gi rfl]; exact hm.gi rfl
    have c2 : gI σ1 1345 0 = gI m 1345 0 := by rw [f1.gi rfl]; exact hm.gi rfl
    have c3 : gI σ1 1342 0 = gI m 1342 0 := by rw [f1.gi rfl]; exact hm.gi rfl
    have c4 : gI σ1 1357 0 = gI m 1357 0 := by rw [f1.gi rfl]; exact hm.gi rfl
    have fin : ∀ (v : Int32) (σ2 : HS), v = (if gI m 1357 0 < 40 then gI m 1357 0 + 1 else gI m 1357 0) → (∀ f i, gI σ2 f i = if f = 1357 ∧ i = 0 then v else gI (sI (sI (sI (sI σ1 55 0 (gI m 1344 0)) 56 0 (gI m 1345 0)) 57 0 (gI m 1342 0)) 58 0 tm) f i) → (∀ i, gL σ2 85 i = gL σ1 85 i) → AgM σ2 (nts m tm) := by
      intro v σ2 hv hs hl
      refine ⟨fun f hf i => ?_, fun i => ?_⟩
      · rw [hs]
        unfold nts
        simp only [gI_sI, gI_sJ, ← hv]
        by_cases e0 : f = 1357
        · subst e0
          simp only [Nat.reduceEqDiff, reduceIte, true_and]
          by_cases ei : i = 0
          · rw [if_pos ei, if_pos ei]
          · rw [if_neg ei, if_neg ei, f1.gi rfl]; exact hm.gi rfl
        · rw [if_neg (fun z => e0 z.1), if_neg e0]
          by_cases e1 : f = 58
          · rw [if_pos e1, if_pos e1, e1]; exact shf_e (fun i => hm.gi rfl) a4 i
          rw [if_neg e1, if_neg e1]
          by_cases e2 : f = 57
          · rw [if_pos e2, if_pos e2, e2]; exact shf_e (fun i => hm.gi rfl) a3 i
          rw [if_neg e2, if_neg e2]
          by_cases e3 : f = 56
          · rw [if_pos e3, if_pos e3, e3]; exact shf_e (fun i => hm.gi rfl) a2 i
          rw [if_neg e3, if_neg e3]
          by_cases e4 : f = 55
          · rw [if_pos e4, if_pos e4, e4]; exact shf_e (fun i => hm.gi rfl) a1 i
          rw [if_neg e4, if_neg e4, f1.gi]
          · exact hm.1 f hf i
          · unfold PLG
            cases z : (Nat.ble 55 f && Nat.ble f 58) with
            | false => rfl
            | true =>
              simp only [Bool.and_eq_true, Nat.ble_eq] at z
              omega
      · rw [hl, f1.gl]
        exact hm.2 i
    have fr : frm PMA σ σ1 := f1.mo (fun f hf => by
      unfold PLG
      cases z : (Nat.ble 55 f && Nat.ble f 58) with
      | false => rfl
      | true =>
        exfalso
        unfold PMA at hf
        simp only [Bool.and_eq_true, Nat.ble_eq] at z
        simp only [Bool.or_eq_false_iff, Bool.and_eq_false_iff] at hf
        rcases hf.1.1 with y | y
        · have : Nat.ble 33 f = true := by rw [Nat.ble_eq]; omega
          rw [this] at y; cases y
        · have : Nat.ble f 62 = true := by rw [Nat.ble_eq]; omega
          rw [this] at y; cases y)
    by_cases q : gI m 1357 0 < 40
    · rw [hX12_notes 34]
      simp only [am_run_s, bt, lf, am_in, am_ar, am_fit, am_ld, am_ct, Nat.reduceLT, Nat.reduceEqDiff, reduceIte, Nat.reduceAdd, Nat.reduceLeDiff, Nat.reduceSub, Bool.false_eq_true, if_true, if_false, ite_true, ite_false, List.length_cons, List.length_nil, Nat.zero_add, Nat.add_zero, and_true, true_and, true_or, or_true, and_self, Nat.le_refl, Nat.lt_irrefl, gI_sI, gL_sL, gQ_sQ, gI_sJ, gI_sL, gI_sQ, gL_sI, gL_sQ, gL_sJ, gQ_sI, gQ_sL, gQ_sJ, gN_sI, gN_sL, gN_sQ, gN_sJ, E_b2_0, E_c_0, E_dup_0, E_dup_1, E_getI_0, E_getR_0, E_iald_0, E_iast_0, E_inc_a, E_inc_b, E_jl_0, E_jmp_0, E_jp_0, E_ldI_a, E_ldI_b, E_ldR_a, E_ldR_b, E_putI_0, E_rV_0, E_stI_0, aL_55, aL_56, aL_57, aL_58, am_nl, am_ok, am_set, cC_12, cC_55, cC_56, cC_57, cC_58, rR_1353, rR_1354, rR_1355, rR_1356, kX12_notes, kX12_notes_0, kX12_notes_1, h3, h4, c1, c2, c3, c4, q]
      apply hQ
      · refine fin (gI m 1357 0 + 1) _ (by rw [if_pos q]) (fun f i => ?_) (fun i => ?_)
        · rw [gI_sI]
          by_cases e0 : f = 1357
          · by_cases ei : i = 0
            · rw [if_pos e0, if_pos ei, if_pos ⟨e0, ei⟩]
            · rw [if_pos e0, if_neg ei, if_neg (fun z => ei z.2)]
          · rw [if_neg e0, if_neg (fun z => e0 z.1)]
        · rfl
      · exact (((((fr.si rfl).si rfl).si rfl).si rfl).si rfl)
    · rw [hX12_notes 28]
      simp only [am_run_s, bt, lf, am_in, am_ar, am_fit, am_ld, am_ct, Nat.reduceLT, Nat.reduceEqDiff, reduceIte, Nat.reduceAdd, Nat.reduceLeDiff, Nat.reduceSub, Bool.false_eq_true, if_true, if_false, ite_true, ite_false, List.length_cons, List.length_nil, Nat.zero_add, Nat.add_zero, and_true, true_and, true_or, or_true, and_self, Nat.le_refl, Nat.lt_irrefl, gI_sI, gL_sL, gQ_sQ, gI_sJ, gI_sL, gI_sQ, gL_sI, gL_sQ, gL_sJ, gQ_sI, gQ_sL, gQ_sJ, gN_sI, gN_sL, gN_sQ, gN_sJ, E_b2_0, E_c_0, E_dup_0, E_dup_1, E_getI_0, E_getR_0, E_iald_0, E_iast_0, E_inc_a, E_inc_b, E_jl_0, E_jmp_0, E_jp_0, E_ldI_a, E_ldI_b, E_ldR_a, E_ldR_b, E_putI_0, E_rV_0, E_stI_0, aL_55, aL_56, aL_57, aL_58, am_nl, am_ok, am_set, cC_12, cC_55, cC_56, cC_57, cC_58, rR_1353, rR_1354, rR_1355, rR_1356, kX12_notes, kX12_notes_0, kX12_notes_1, h3, h4, c1, c2, c3, c4, q]
      apply hQ
      · refine fin (gI m 1357 0) _ (by rw [if_neg q]) (fun f i => ?_) (fun i => ?_)
        · by_cases e0 : f = 1357 ∧ i = 0
          · rw [if_pos e0, e0.1, e0.2]
            simp only [gI_sI, Nat.reduceEqDiff, reduceIte]
            exact c4
          · rw [if_neg e0]
        · rfl
      · exact ((((fr.si rfl).si rfl).si rfl).si rfl)
  all_goals (unfold shk; rw [if_neg (by omega)])
