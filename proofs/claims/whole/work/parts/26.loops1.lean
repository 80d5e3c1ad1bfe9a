/-! ===== who has a rank: both loops ===== -/
theorem l_holderOf {σ : HS} {r : Int32} {Q : PO} (hw : gI σ 703 0 = nI (gN σ 10)) (h24 : gN σ 10 ≤ 24) (hq : ∀ i, i < gN σ 10 → gQ σ 91 i = some (10, i)) (hs : ∀ i, i < gN σ 10 → gI σ 1102 i = r → Q (some (.inr (.inr (some (10, i))))) σ) (hn : (∀ i, i < gN σ 10 → gI σ 1102 i ≠ r) → Q (some (.inr (.inr none))) σ) :
    ∀ (n i : Nat), i + n = gN σ 10 → (∀ i', i' < i → gI σ 1102 i' ≠ r) → am_T (kX6_holderOf S1) MM Q 2 [some (.inr (.inr (some (6, 0)))), some (.inl r), some (.inl (nI i))] [] σ 0 0 := by
  intro n
  induction n with
  | zero =>
    intro i hi hb
    rw [hX6_holderOf 40]
    have h1 : ¬ nI i < nI (gN σ 10) := nI_nlt (by omega) (by omega)
    simp only [am_run_s, bt, lf, am_in, am_ar, am_fit, am_ld, am_ct, Nat.reduceLT, Nat.reduceEqDiff, reduceIte, Nat.reduceAdd, Nat.reduceLeDiff, Nat.reduceSub, Bool.false_eq_true, if_true, if_false, ite_true, ite_false, List.length_cons, List.length_nil, Nat.zero_add, Nat.add_zero, and_true, true_and, true_or, or_true, and_self, Nat.le_refl, Nat.lt_irrefl, gI_sI, gL_sL, gQ_sQ, gI_sJ, gI_sL, gI_sQ, gL_sI, gL_sQ, gL_sJ, gQ_sI, gQ_sL, gQ_sJ, gN_sI, gN_sL, gN_sQ, gN_sJ, E_aald_0, E_c_0, E_getI_0, E_getR_0, E_inc_a, E_inc_b, E_je_0, E_jl_0, E_jmp_0, E_ldI_a, E_ldI_b, E_ldR_a, E_ldR_b, E_rR_0, E_stI_0, aL_91, am_nl, am_ok, am_set, cC_10, cC_6, cC_91, rQ_91, rR_701, sN_91, kX6_holderOf, hw, h1]
    exact hn (fun i' h' => hb i' (by omega))
  | succ n ih =>
    intro i hi hb
    rw [hX6_holderOf 40]
    have hlt : i < gN σ 10 := by omega
    have h1 := nI_t hlt (by omega)
    have h3 : vp_in (nI i) 24 := vp_in_nI (by omega) (by omega)
    have h4 : (nI i).toNatClampNeg = i := nI_clamp (by omega)
    by_cases e : gI σ 1102 i = r
    · simp only [am_run_s, bt, lf, am_in, am_ar, am_fit, am_ld, am_ct, Nat.reduceLT, Nat.reduceEqDiff, reduceIte, Nat.reduceAdd, Nat.reduceLeDiff, Nat.reduceSub, Bool.false_eq_true, if_true, if_false, ite_true, ite_false, List.length_cons, List.length_nil, Nat.zero_add, Nat.add_zero, and_true, true_and, true_or, or_true, and_self, Nat.le_refl, Nat.lt_irrefl, gI_sI, gL_sL, gQ_sQ, gI_sJ, gI_sL, gI_sQ, gL_sI, gL_sQ, gL_sJ, gQ_sI, gQ_sL, gQ_sJ, gN_sI, gN_sL, gN_sQ, gN_sJ, E_aald_0, E_c_0, E_getI_0, E_getR_0, E_inc_a, E_inc_b, E_je_0, E_jl_0, E_jmp_0, E_ldI_a, E_ldI_b, E_ldR_a, E_ldR_b, E_rR_0, E_stI_0, aL_91, am_nl, am_ok, am_set, cC_10, cC_6, cC_91, rQ_91, rR_701, sN_91, kX6_holderOf, hw, h1, h3, h4, hq i hlt, hlt, e]
      exact hs i hlt e
    · simp only [am_run_s, bt, lf, am_in, am_ar, am_fit, am_ld, am_ct, Nat.reduceLT, Nat.reduceEqDiff, reduceIte, Nat.reduceAdd, Nat.reduceLeDiff, Nat.reduceSub, Bool.false_eq_true, if_true, if_false, ite_true, ite_false, List.length_cons, List.length_nil, Nat.zero_add, Nat.add_zero, and_true, true_and, true_or, or_true, and_self, Nat.le_refl, Nat.lt_irrefl, gI_sI, gL_sL, gQ_sQ, gI_sJ, gI_sL, gI_sQ, gL_sI, gL_sQ, gL_sJ, gQ_sI, gQ_sL, gQ_sJ, gN_sI, gN_sL, gN_sQ, gN_sJ, E_aald_0, E_c_0, E_getI_0, E_getR_0, E_inc_a, E_inc_b, E_je_0, E_jl_0, E_jmp_0, E_ldI_a, E_ldI_b, E_ldR_a, E_ldR_b, E_rR_0, E_stI_0, aL_91, am_nl, am_ok, am_set, cC_10, cC_6, cC_91, rQ_91, rR_701, sN_91, kX6_holderOf, hw, h1, h3, h4, hq i hlt, hlt, e, nI_1]
      exact ih (i + 1) (by omega) (fun i' h' => by
        by_cases e2 : i' = i
        · rw [e2]; exact e
        · exact hb i' (by omega))
theorem c_holderOf {σ : HS} {r : Int32} {Q : PO} (hw : gI σ 703 0 = nI (gN σ 10)) (h24 : gN σ 10 ≤ 24) (hq : ∀ i, i < gN σ 10 → gQ σ 91 i = some (10, i)) (hs : ∀ i, i < gN σ 10 → gI σ 1102 i = r → Q (some (.inr (.inr (some (10, i))))) σ) (hn : (∀ i, i < gN σ 10 → gI σ 1102 i ≠ r) → Q (some (.inr (.inr none))) σ) : MM 52 [.inr (.inr (some (6, 0))), .inl r] σ Q := by
  rw [eX6_holderOf 40]
  simp only [am_run_s, bt, lf, am_in, am_ar, am_fit, am_ld, am_ct, Nat.reduceLT, Nat.reduceEqDiff, reduceIte, Nat.reduceAdd, Nat.reduceLeDiff, Nat.reduceSub, Bool.false_eq_true, if_true, if_false, ite_true, ite_false, List.length_cons, List.length_nil, Nat.zero_add, Nat.add_zero, and_true, true_and, true_or, or_true, and_self, Nat.le_refl, Nat.lt_irrefl, gI_sI, gL_sL, gQ_sQ, gI_sJ, gI_sL, gI_sQ, gL_sI, gL_sQ, gL_sJ, gQ_sI, gQ_sL, gQ_sJ, gN_sI, gN_sL, gN_sQ, gN_sJ, E_aald_0, E_c_0, E_getI_0, E_getR_0, E_inc_a, E_inc_b, E_je_0, E_jl_0, E_jmp_0, E_ldI_a, E_ldI_b, E_ldR_a, E_ldR_b, E_rR_0, E_stI_0, aL_91, am_nl, am_ok, am_set, cC_10, cC_6, cC_91, rQ_91, rR_701, sN_91, kX6_holderOf]
  exact l_holderOf hw h24 hq hs hn (gN σ 10) 0 (by omega) (fun _ h => absurd h (by omega))
theorem l_hasRank {σ : HS} {r : Int32} {Q : PO} {nw : Nat} (hw : gI σ 1314 0 = nI nw) (h24 : nw ≤ 24) (hs : (∃ i, i < nw ∧ gI σ 38 i = r) → Q (some (.inl 1)) σ) (hn : (¬ ∃ i, i < nw ∧ gI σ 38 i = r) → Q (some (.inl 0)) σ) :
    ∀ (n i : Nat) (b : Int32), i + n = nw → (b = 0 ∧ (¬ ∃ i', i' < i ∧ gI σ 38 i' = r) ∨ b = 1 ∧ ∃ i', i' < i ∧ gI σ 38 i' = r) → am_T (kX12_hasRank S1) MM Q 4 [some (.inr (.inr (some (12, 0)))), some (.inl r), some (.inl b), some (.inl (nI i))] [] σ 0 0 := by
  intro n
  induction n with
  | zero =>
    intro i b hi hb
    rw [hX12_hasRank 40]
    have h1 : ¬ nI i < nI nw := nI_nlt (by omega) (by omega)
    have hi' : i = nw := by omega
    subst hi'
    rcases hb with ⟨rfl, hb⟩ | ⟨rfl, hb⟩
    · simp only [am_run_s, bt, lf, am_in, am_ar, am_fit, am_ld, am_ct, Nat.reduceLT, Nat.reduceEqDiff, reduceIte, Nat.reduceAdd, Nat.reduceLeDiff, Nat.reduceSub, Bool.false_eq_true, if_true, if_false, ite_true, ite_false, List.length_cons, List.length_nil, Nat.zero_add, Nat.add_zero, and_true, true_and, true_or, or_true, and_self, Nat.le_refl, Nat.lt_irrefl, gI_sI, gL_sL, gQ_sQ, gI_sJ, gI_sL, gI_sQ, gL_sI, gL_sQ, gL_sJ, gQ_sI, gQ_sL, gQ_sJ, gN_sI, gN_sL, gN_sQ, gN_sJ, E_c_0, E_getI_0, E_getR_0, E_iald_0, E_inc_a, E_inc_b, E_je_0, E_jl_0, E_jmp_0, E_jz_0, E_ldI_a, E_ldI_b, E_ldR_a, E_ldR_b, E_rZ_0, E_stI_0, aL_38, am_nl, am_ok, am_set, cC_12, cC_38, rR_1305, kX12_hasRank, hw, h1, am_b0]
      exact hn hb
    · simp only [am_run_s, bt, lf, am_in, am_ar, am_fit, am_ld, am_ct, Nat.reduceLT, Nat.reduceEqDiff, reduceIte, Nat.reduceAdd, Nat.reduceLeDiff, Nat.reduceSub, Bool.false_eq_true, if_true, if_false, ite_true, ite_false, List.length_cons, List.length_nil, Nat.zero_add, Nat.add_zero, and_true, true_and, true_or, or_true, and_self, Nat.le_refl, Nat.lt_irrefl, gI_sI, gL_sL, gQ_sQ, gI_sJ, gI_sL, gI_sQ, gL_sI, gL_sQ, gL_sJ, gQ_sI, gQ_sL, gQ_sJ, gN_sI, gN_sL, gN_sQ, gN_sJ, E_c_0, E_getI_0, E_getR_0, E_iald_0, E_inc_a, E_inc_b, E_je_0, E_jl_0, E_jmp_0, E_jz_0, E_ldI_a, E_ldI_b, E_ldR_a, E_ldR_b, E_rZ_0, E_stI_0, aL_38, am_nl, am_ok, am_set, cC_12, cC_38, rR_1305, kX12_hasRank, hw, h1, am_b1]
      exact hs hb
  | succ n ih =>
    intro i b hi hb
    rw [hX12_hasRank 40]
    have h1 := nI_t (show i < nw by omega) (by omega)
    have h3 : vp_in (nI i) 24 := vp_in_nI (by omega) (by omega)
    have h4 : (nI i).toNatClampNeg = i := nI_clamp (by omega)
    have up : ∀ q, q < i + 1 ↔ (q < i ∨ q = i) := fun q => by omega
    rcases hb with ⟨rfl, hb⟩ | ⟨rfl, hb⟩
    · by_cases e : gI σ 38 i = r
      · simp only [am_run_s, bt, lf, am_in, am_ar, am_fit, am_ld, am_ct, Nat.reduceLT, Nat.reduceEqDiff, reduceIte, Nat.reduceAdd, Nat.reduceLeDiff, Nat.reduceSub, Bool.false_eq_true, if_true, if_false, ite_true, ite_false, List.length_cons, List.length_nil, Nat.zero_add, Nat.add_zero, and_true, true_and, true_or, or_true, and_self, Nat.le_refl, Nat.lt_irrefl, gI_sI, gL_sL, gQ_sQ, gI_sJ, gI_sL, gI_sQ, gL_sI, gL_sQ, gL_sJ, gQ_sI, gQ_sL, gQ_sJ, gN_sI, gN_sL, gN_sQ, gN_sJ, E_c_0, E_getI_0, E_getR_0, E_iald_0, E_inc_a, E_inc_b, E_je_0, E_jl_0, E_jmp_0, E_jz_0, E_ldI_a, E_ldI_b, E_ldR_a, E_ldR_b, E_rZ_0, E_stI_0, aL_38, am_nl, am_ok, am_set, cC_12, cC_38, rR_1305, kX12_hasRank, hw, h1, h3, h4, e, nI_1]
        exact ih (i + 1) 1 (by omega) (Or.inr ⟨rfl, i, by omega, e⟩)
      · simp only [am_run_s, bt, lf, am_in, am_ar, am_fit, am_ld, am_ct, Nat.reduceLT, Nat.reduceEqDiff, reduceIte, Nat.reduceAdd, Nat.reduceLeDiff, Nat.reduceSub, Bool.false_eq_true, if_true, if_false, ite_true, ite_false, List.length_cons, List.length_nil, Nat.zero_add, Nat.add_zero, and_true, true_and, true_or, or_true, and_self, Nat.le_refl, Nat.lt_irrefl, gI_sI, gL_sL, gQ_sQ, gI_sJ, gI_sL, gI_sQ, gL_sI, gL_sQ, gL_sJ, gQ_sI, gQ_sL, gQ_sJ, gN_sI, gN_sL, gN_sQ, gN_sJ, E_c_0, E_getI_0, E_getR_0, E_iald_0, E_inc_a, E_inc_b, E_je_0, E_jl_0, E_jmp_0, E_jz_0, E_ldI_a, E_ldI_b, E_ldR_a, E_ldR_b, E_rZ_0, E_stI_0, aL_38, am_nl, am_ok, am_set, cC_12, cC_38, rR_1305, kX12_hasRank, hw, h1, h3, h4, e, nI_1]
        refine ih (i + 1) 0 (by omega) (Or.inl ⟨rfl, ?_⟩)
        rintro ⟨q, q1, q2⟩
        rcases (up q).mp q1 with q3 | q3
        · exact hb ⟨q, q3, q2⟩
        · rw [q3] at q2; exact e q2
    · simp only [am_run_s, bt, lf, am_in, am_ar, am_fit, am_ld, am_ct, Nat.reduceLT, Nat.reduceEqDiff, reduceIte, Nat.reduceAdd, Nat.reduceLeDiff, Nat.reduceSub, Bool.false_eq_true, if_true, if_false, ite_true, ite_false, List.length_cons, List.length_nil, Nat.zero_add, Nat.add_zero, and_true, true_and, true_or, or_true, and_self, Nat.le_refl, Nat.lt_irrefl, gI_sI, gL_sL, gQ_sQ, gI_sJ, gI_sL, gI_sQ, gL_sI, gL_sQ, gL_sJ, gQ_sI, gQ_sL, gQ_sJ, gN_sI, gN_sL, gN_sQ, gN_sJ, E_c_0, E_getI_0, E_getR_0, E_iald_0, E_inc_a, E_inc_b, E_je_0, E_jl_0, E_jmp_0, E_jz_0, E_ldI_a, E_ldI_b, E_ldR_a, E_ldR_b, E_rZ_0, E_stI_0, aL_38, am_nl, am_ok, am_set, cC_12, cC_38, rR_1305, kX12_hasRank, hw, h1, h3, h4, i01, nI_1]
      obtain ⟨q, q1, q2⟩ := hb
      exact ih (i + 1) 1 (by omega) (Or.inr ⟨rfl, q, by omega, q2⟩)
theorem c_hasRank {σ : HS} {r : Int32} {Q : PO} {nw : Nat} (hw : gI σ 1314 0 = nI nw) (h24 : nw ≤ 24) (hs : (∃ i, i < nw ∧ gI σ 38 i = r) → Q (some (.inl 1)) σ) (hn : (¬ ∃ i, i < nw ∧ gI σ 38 i = r) → Q (some (.inl 0)) σ) : MM 142 [.inr (.inr (some (12, 0))), .inl r] σ Q := by
  rw [eX12_hasRank 40]
  simp only [am_run_s, bt, lf, am_in, am_ar, am_fit, am_ld, am_ct, Nat.reduceLT, Nat.reduceEqDiff, reduceIte, Nat.reduceAdd, Nat.reduceLeDiff, Nat.reduceSub, Bool.false_eq_true, if_true, if_false, ite_true, ite_false, List.length_cons, List.length_nil, Nat.zero_add, Nat.add_zero, and_true, true_and, true_or, or_true, and_self, Nat.le_refl, Nat.lt_irrefl, gI_sI, gL_sL, gQ_sQ, gI_sJ, gI_sL, gI_sQ, gL_sI, gL_sQ, gL_sJ, gQ_sI, gQ_sL, gQ_sJ, gN_sI, gN_sL, gN_sQ, gN_sJ, E_c_0, E_getI_0, E_getR_0, E_iald_0, E_inc_a, E_inc_b, E_je_0, E_jl_0, E_jmp_0, E_jz_0, E_ldI_a, E_ldI_b, E_ldR_a, E_ldR_b, E_rZ_0, E_stI_0, aL_38, am_nl, am_ok, am_set, cC_12, cC_38, rR_1305, kX12_hasRank]
  exact l_hasRank hw h24 hs hn nw 0 0 (by omega) (Or.inl ⟨rfl, fun ⟨q, q1, _⟩ => absurd q1 (by omega)⟩)
