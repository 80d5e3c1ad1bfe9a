/-! ===== give: the call ===== -/
theorem s_wap {σ : HS} {i p n : Nat} (hi : i < 24) (hp : p < n) (hn : n ≤ 24) (h1 : gI σ 23 i = nI p) (h2 : gI σ 703 0 = nI n) (h3 : gQ σ 91 p = some (10, p)) (Q : PO) : MM 13 [.inr (.inr (some (0, 0))), .inl (nI i)] σ Q ↔ Q (some (.inr (.inr (some (10, p))))) σ := by
  have a1 : vp_in (nI i) 24 := vp_in_nI (by omega) (by omega)
  have a2 : (nI i).toNatClampNeg = i := nI_clamp (by omega)
  have a3 : vp_in (nI p) 24 := vp_in_nI (by omega) (by omega)
  have a4 : (nI p).toNatClampNeg = p := nI_clamp (by omega)
  have b1 := nI_f (j := p) (by omega)
  have b2 := nI_t hp (by omega)
  rw [eX0_wordAtPlace 20]
  simp only [am_run_s, bt, lf, am_in, am_ar, am_fit, am_ld, am_ct, Nat.reduceLT, Nat.reduceEqDiff, reduceIte, Nat.reduceAdd, Nat.reduceLeDiff, Nat.reduceSub, Bool.false_eq_true, if_true, if_false, ite_true, ite_false, List.length_cons, List.length_nil, Nat.zero_add, Nat.add_zero, and_true, true_and, true_or, or_true, and_self, Nat.le_refl, Nat.lt_irrefl, gI_sI, gL_sL, gQ_sQ, gI_sJ, gI_sL, gI_sQ, gL_sI, gL_sQ, gL_sJ, gQ_sI, gQ_sL, gQ_sJ, gN_sI, gN_sL, gN_sQ, gN_sJ, E_aald_0, E_cV_a, E_cV_b, E_c_0, E_getR_0, E_iald_0, E_jmp_0, E_jz_0, E_kk, E_ldI_a, E_ldI_b, E_ldR_a, E_ldR_b, E_rR_0, aL_23, aL_91, am_cc, am_pop, am_rt, cC_0, cC_23, cC_6, cC_91, rQ_91, rR_100, rR_104, rR_701, sN_91, kX0_wordAtPlace, a1, a2, a3, a4, h1, h2, h3, ↓s_hasWord, bI_z, b1, b2, not_true_eq_false, not_false_eq_true]
def PGX (f : Nat) : Bool := Nat.beq f 24 || Nat.beq f 1102 || Nat.beq f 106
theorem PGX_S (f : Nat) (h : PGX f = false) : PSR f = false := by
  unfold PGX at h
  simp only [Bool.or_eq_false_iff] at h
  exact h.1.1
theorem l_giveX {kk : Nat} {σ0 : HS} (h : Inv kk σ0) {od : Nat → Nat} {R : Nat → Int32} (o1 : ∀ j, j < gN σ0 10 → od j < gN σ0 10) (o2 : ∀ a b, a < gN σ0 10 → b < gN σ0 10 → a ≠ b → od a ≠ od b) (o3 : ∀ j, j < gN σ0 10 → gI σ0 23 j = nI (od j)) {Q : PO} : ∀ (r i : Nat) (σ : HS) (o : Option AV), i + r = gN σ0 10 → frm PGX σ0 σ → (∀ j, j < gN σ0 10 → gI σ 24 j = R j) → gvI (gN σ0 10) od (gI σ0 38) R i (gI σ 1102) (gI σ 106 0) →
    (∀ σ', frm PGX σ0 σ' → gvI (gN σ0 10) od (gI σ0 38) R (gN σ0 10) (gI σ' 1102) (gI σ' 106 0) → Q none σ') →
    am_T (kX0_giveRanks S1) MM Q 6 [some (.inr (.inr (some (0, 0)))), some (.inl (nI i)), o] [] σ 0 0 := by
  obtain ⟨hw1, hw2, h24⟩ := h.wc
  intro r
  induction r with
  | zero =>
    intro i σ o hi f0 hR hg hQ
    have e : i = gN σ0 10 := by omega
    subst e
    have c1 : gI σ 703 0 = nI (gN σ0 10) := by rw [f0.gi rfl]; exact hw1
    rw [hX0_giveRanks 6]
    have h0 : ¬ nI (gN σ0 10) < nI (gN σ0 10) := nI_nlt (by omega) (by omega)
    simp only [am_run_s, bt, lf, am_in, am_ar, am_fit, am_ld, am_ct, Nat.reduceLT, Nat.reduceEqDiff, reduceIte, Nat.reduceAdd, Nat.reduceLeDiff, Nat.reduceSub, Bool.false_eq_true, if_true, if_false, ite_true, ite_false, List.length_cons, List.length_nil, Nat.zero_add, Nat.add_zero, and_true, true_and, true_or, or_true, and_self, Nat.le_refl, Nat.lt_irrefl, gI_sI, gL_sL, gQ_sQ, gI_sJ, gI_sL, gI_sQ, gL_sI, gL_sQ, gL_sJ, gQ_sI, gQ_sL, gQ_sJ, gN_sI, gN_sL, gN_sQ, gN_sJ, E_cV_a, E_cV_b, E_c_0, E_getI_0, E_getR_0, E_iald_0, E_inc_a, E_inc_b, E_je_0, E_jl_0, E_jmp_0, E_jnull_0, E_jnull_1, E_kk, E_ldI_a, E_ldI_b, E_ldR_a, E_ldR_b, E_putI_0, E_putZ_0, E_rV_0, E_stI_0, E_stR_0, aL_24, am_cc, am_nl, am_ok, am_pop, am_rt, am_set, cC_0, cC_10, cC_24, cC_6, rR_100, rR_105, kX0_giveRanks, c1, h0]
    exact hQ σ f0 hg
  | succ r ih =>
    intro i σ o hi f0 hR hg hQ
    have hk : i < gN σ0 10 := by omega
    have hp := o1 i hk
    have c1 : gI σ 703 0 = nI (gN σ0 10) := by rw [f0.gi rfl]; exact hw1
    have c2 : gI σ 23 i = nI (od i) := by rw [f0.gi rfl]; exact o3 i hk
    have c3 : gQ σ 91 (od i) = some (10, od i) := by rw [f0.gq]; exact (h.2.1.1 (od i) hp).1
    have c4 : od i < gN σ 10 := by rw [f0.gn]; exact hp
    have h2 := nI_t hk (by omega)
    have h3 : vp_in (nI i) 24 := vp_in_nI (by omega) (by omega)
    have h4 : (nI i).toNatClampNeg = i := nI_clamp (by omega)
    have er := gvI_at hg o1 o2 hk
    have eR := hR i hk
    by_cases q : gI σ0 38 (od i) = R i
    · rw [hX0_giveRanks 19]
      simp only [am_run_s, bt, lf, am_in, am_ar, am_fit, am_ld, am_ct, Nat.reduceLT, Nat.reduceEqDiff, reduceIte, Nat.reduceAdd, Nat.reduceLeDiff, Nat.reduceSub, Bool.false_eq_true, if_true, if_false, ite_true, ite_false, List.length_cons, List.length_nil, Nat.zero_add, Nat.add_zero, and_true, true_and, true_or, or_true, and_self, Nat.le_refl, Nat.lt_irrefl, gI_sI, gL_sL, gQ_sQ, gI_sJ, gI_sL, gI_sQ, gL_sI, gL_sQ, gL_sJ, gQ_sI, gQ_sL, gQ_sJ, gN_sI, gN_sL, gN_sQ, gN_sJ, E_cV_a, E_cV_b, E_c_0, E_getI_0, E_getR_0, E_iald_0, E_inc_a, E_inc_b, E_je_0, E_jl_0, E_jmp_0, E_jnull_0, E_jnull_1, E_kk, E_ldI_a, E_ldI_b, E_ldR_a, E_ldR_b, E_putI_0, E_putZ_0, E_rV_0, E_stI_0, E_stR_0, aL_24, am_cc, am_nl, am_ok, am_pop, am_rt, am_set, cC_0, cC_10, cC_24, cC_6, rR_100, rR_105, kX0_giveRanks, c1, h2, ↓s_wap (show i < 24 by omega) hp h24 c2 c1 c3, c4, er, h3, h4, eR, q, nI_1]
      refine ih (i + 1) σ _ (by omega) f0 hR (gvI_s hg o2 hk (fun w => ?_) ?_) hQ
      · by_cases e : w = od i
        · rw [if_pos e, e, er, q]
        · rw [if_neg e]
      · rcases hg.2.2 with ⟨b1, b2⟩ | ⟨b1, b2⟩
        · exact Or.inl ⟨b1, b1, q⟩
        · exact Or.inr ⟨b1, fun z => by rw [b1] at z; exact absurd z.1 (by decide)⟩
    · rw [hX0_giveRanks 30]
      simp only [am_run_s, bt, lf, am_in, am_ar, am_fit, am_ld, am_ct, Nat.reduceLT, Nat.reduceEqDiff, reduceIte, Nat.reduceAdd, Nat.reduceLeDiff, Nat.reduceSub, Bool.false_eq_true, if_true, if_false, ite_true, ite_false, List.length_cons, List.length_nil, Nat.zero_add, Nat.add_zero, and_true, true_and, true_or, or_true, and_self, Nat.le_refl, Nat.lt_irrefl, gI_sI, gL_sL, gQ_sQ, gI_sJ, gI_sL, gI_sQ, gL_sI, gL_sQ, gL_sJ, gQ_sI, gQ_sL, gQ_sJ, gN_sI, gN_sL, gN_sQ, gN_sJ, E_cV_a, E_cV_b, E_c_0, E_getI_0, E_getR_0, E_iald_0, E_inc_a, E_inc_b, E_je_0, E_jl_0, E_jmp_0, E_jnull_0, E_jnull_1, E_kk, E_ldI_a, E_ldI_b, E_ldR_a, E_ldR_b, E_putI_0, E_putZ_0, E_rV_0, E_stI_0, E_stR_0, aL_24, am_cc, am_nl, am_ok, am_pop, am_rt, am_set, cC_0, cC_10, cC_24, cC_6, rR_100, rR_105, kX0_giveRanks, c1, h2, ↓s_wap (show i < 24 by omega) hp h24 c2 c1 c3, c4, er, h3, h4, eR, q, am_b0, nI_1]
      refine ih (i + 1) _ _ (by omega) ((f0.si rfl).si rfl) (fun j hj => ?_) (gvI_s hg o2 hk (fun w => ?_) (Or.inr ⟨?_, fun z => q z.2⟩)) hQ
      · simp only [gI_sI, gL_sL, gQ_sQ, gI_sJ, gI_sL, gI_sQ, gL_sI, gL_sQ, gL_sJ, gQ_sI, gQ_sL, gQ_sJ, gN_sI, gN_sL, gN_sQ, gN_sJ, Nat.reduceLT, Nat.reduceEqDiff, reduceIte, Nat.reduceAdd, Nat.reduceLeDiff, Nat.reduceSub, Bool.false_eq_true, if_true, if_false, ite_true, ite_false, List.length_cons, List.length_nil, Nat.zero_add, Nat.add_zero, and_true, true_and, true_or, or_true, and_self, Nat.le_refl, Nat.lt_irrefl]; exact hR j hj
      · simp only [gI_sI, gL_sL, gQ_sQ, gI_sJ, gI_sL, gI_sQ, gL_sI, gL_sQ, gL_sJ, gQ_sI, gQ_sL, gQ_sJ, gN_sI, gN_sL, gN_sQ, gN_sJ, Nat.reduceLT, Nat.reduceEqDiff, reduceIte, Nat.reduceAdd, Nat.reduceLeDiff, Nat.reduceSub, Bool.false_eq_true, if_true, if_false, ite_true, ite_false, List.length_cons, List.length_nil, Nat.zero_add, Nat.add_zero, and_true, true_and, true_or, or_true, and_self, Nat.le_refl, Nat.lt_irrefl]
      · simp only [gI_sI, gL_sL, gQ_sQ, gI_sJ, gI_sL, gI_sQ, gL_sI, gL_sQ, gL_sJ, gQ_sI, gQ_sL, gQ_sJ, gN_sI, gN_sL, gN_sQ, gN_sJ, Nat.reduceLT, Nat.reduceEqDiff, reduceIte, Nat.reduceAdd, Nat.reduceLeDiff, Nat.reduceSub, Bool.false_eq_true, if_true, if_false, ite_true, ite_false, List.length_cons, List.length_nil, Nat.zero_add, Nat.add_zero, and_true, true_and, true_or, or_true, and_self, Nat.le_refl, Nat.lt_irrefl]
def PGM (f : Nat) : Bool := Nat.beq f 60 || Nat.beq f 38 || Nat.beq f 1361
theorem PGM_R (f : Nat) (h : PGM f = false) : PGR f = false := by
  unfold PGM at h
  simp only [Bool.or_eq_false_iff] at h
  exact h.1.1
theorem l_giveM {n : Nat} {od : Nat → Nat} {rk R : Nat → Int32} (hn : n ≤ 24) (o1 : ∀ j, j < n → od j < n) (o2 : ∀ a b, a < n → b < n → a ≠ b → od a ≠ od b) {Q : PO} : ∀ (r i : Nat) (σ : HS) (o : Option AV), i + r = n → gI σ 1314 0 = nI n → (∀ j, j < n → gI σ 59 j = nI (od j)) → (∀ j, j < n → gI σ 60 j = R j) → gvI n od rk R i (gI σ 38) (gI σ 1361 0) →
    (∀ σ', frm PGM σ σ' → gvI n od rk R n (gI σ' 38) (gI σ' 1361 0) → Q (some (.inl 1)) σ') →
    am_T (kX12_give S1) MM Q 93 [some (.inr (.inr (some (12, 0)))), some (.inl (nI i)), o] [] σ 0 0 := by
  intro r
  induction r with
  | zero =>
    intro i σ o hi hw ho hR hg hQ
    have e : i = n := by omega
    subst e
    rw [hX12_give 6]
    have h0 : ¬ nI i < nI i := nI_nlt (by omega) (by omega)
    simp only [am_run_s, bt, lf, am_in, am_ar, am_fit, am_ld, am_ct, Nat.reduceLT, Nat.reduceEqDiff, reduceIte, Nat.reduceAdd, Nat.reduceLeDiff, Nat.reduceSub, Bool.false_eq_true, if_true, if_false, ite_true, ite_false, List.length_cons, List.length_nil, Nat.zero_add, Nat.add_zero, and_true, true_and, true_or, or_true, and_self, Nat.le_refl, Nat.lt_irrefl, gI_sI, gL_sL, gQ_sQ, gI_sJ, gI_sL, gI_sQ, gL_sI, gL_sQ, gL_sJ, gQ_sI, gQ_sL, gQ_sJ, gN_sI, gN_sL, gN_sQ, gN_sJ, E_b2_0, E_cS_a, E_cS_b, E_cV_a, E_cV_b, E_c_0, E_getI_0, E_getR_0, E_iald_0, E_iast_0, E_inc_a, E_inc_b, E_je_0, E_jg_0, E_jl_0, E_jmp_0, E_jp_0, E_jz_0, E_kk, E_ldI_a, E_ldI_b, E_ldR_a, E_ldR_b, E_putZ_0, E_rI_0, E_stI_0, aL_38, aL_59, aL_60, am_cc, am_nl, am_ok, am_pop, am_rt, am_set, cC_12, cC_38, cC_59, cC_60, rR_1305, rR_1360, rR_1363, kX12_give, kX12_give_0, kX12_give_1, hw, h0]
    exact hQ σ frm.rf hg
  | succ r ih =>
    intro i σ o hi hw ho hR hg hQ
    have hk : i < n := by omega
    have hp := o1 i hk
    have h2 := nI_t hk (by omega)
    have h3 : vp_in (nI i) 24 := vp_in_nI (by omega) (by omega)
    have h4 : (nI i).toNatClampNeg = i := nI_clamp (by omega)
    have h5 : vp_in (nI (od i)) 24 := vp_in_nI (by omega) (by omega)
    have h6 : (nI (od i)).toNatClampNeg = od i := nI_clamp (by omega)
    have er := gvI_at hg o1 o2 hk
    have eR := hR i hk
    have eo := ho i hk
    have go : ∀ v : Int32, (v = 1 ∧ gI σ 1361 0 = 1 ∧ rk (od i) = R i ∨ v = 0 ∧ ¬ (gI σ 1361 0 = 1 ∧ rk (od i) = R i)) → am_T (kX12_give S1) MM Q 93 [some (.inr (.inr (some (12, 0)))), some (.inl (nI (i + 1))), o] [] (sI (sI σ 1361 0 v) 38 (od i) (R i)) 0 0 := by
      intro v hv
      have f1 : frm PGM σ (sI (sI σ 1361 0 v) 38 (od i) (R i)) := (frm.rf.si rfl).si rfl
      refine ih (i + 1) _ o (by omega) (by simp only [gI_sI, gL_sL, gQ_sQ, gI_sJ, gI_sL, gI_sQ, gL_sI, gL_sQ, gL_sJ, gQ_sI, gQ_sL, gQ_sJ, gN_sI, gN_sL, gN_sQ, gN_sJ, Nat.reduceLT, Nat.reduceEqDiff, reduceIte, Nat.reduceAdd, Nat.reduceLeDiff, Nat.reduceSub, Bool.false_eq_true, if_true, if_false, ite_true, ite_false, List.length_cons, List.length_nil, Nat.zero_add, Nat.add_zero, and_true, true_and, true_or, or_true, and_self, Nat.le_refl, Nat.lt_irrefl]; exact hw) (fun j hj => by simp only [gI_sI, gL_sL, gQ_sQ, gI_sJ, gI_sL, gI_sQ, gL_sI, gL_sQ, gL_sJ, gQ_sI, gQ_sL, gQ_sJ, gN_sI, gN_sL, gN_sQ, gN_sJ, Nat.reduceLT, Nat.reduceEqDiff, reduceIte, Nat.reduceAdd, Nat.reduceLeDiff, Nat.reduceSub, Bool.false_eq_true, if_true, if_false, ite_true, ite_false, List.length_cons, List.length_nil, Nat.zero_add, Nat.add_zero, and_true, true_and, true_or, or_true, and_self, Nat.le_refl, Nat.lt_irrefl]; exact ho j hj) (fun j hj => by simp only [gI_sI, gL_sL, gQ_sQ, gI_sJ, gI_sL, gI_sQ, gL_sI, gL_sQ, gL_sJ, gQ_sI, gQ_sL, gQ_sJ, gN_sI, gN_sL, gN_sQ, gN_sJ, Nat.reduceLT, Nat.reduceEqDiff, reduceIte, Nat.reduceAdd, Nat.reduceLeDiff, Nat.reduceSub, Bool.false_eq_true, if_true, if_false, ite_true, ite_false, List.length_cons, List.length_nil, Nat.zero_add, Nat.add_zero, and_true, true_and, true_or, or_true, and_self, Nat.le_refl, Nat.lt_irrefl]; exact hR j hj) (gvI_s hg o2 hk (fun w => ?_) ?_) (fun σ' f2 g2 => hQ σ' (f1.tr f2) g2)
      · simp only [gI_sI, gL_sL, gQ_sQ, gI_sJ, gI_sL, gI_sQ, gL_sI, gL_sQ, gL_sJ, gQ_sI, gQ_sL, gQ_sJ, gN_sI, gN_sL, gN_sQ, gN_sJ, Nat.reduceLT, Nat.reduceEqDiff, reduceIte, Nat.reduceAdd, Nat.reduceLeDiff, Nat.reduceSub, Bool.false_eq_true, if_true, if_false, ite_true, ite_false, List.length_cons, List.length_nil, Nat.zero_add, Nat.add_zero, and_true, true_and, true_or, or_true, and_self, Nat.le_refl, Nat.lt_irrefl]
      · simp only [gI_sI, gL_sL, gQ_sQ, gI_sJ, gI_sL, gI_sQ, gL_sI, gL_sQ, gL_sJ, gQ_sI, gQ_sL, gQ_sJ, gN_sI, gN_sL, gN_sQ, gN_sJ, Nat.reduceLT, Nat.reduceEqDiff, reduceIte, Nat.reduceAdd, Nat.reduceLeDiff, Nat.reduceSub, Bool.false_eq_true, if_true, if_false, ite_true, ite_false, List.length_cons, List.length_nil, Nat.zero_add, Nat.add_zero, and_true, true_and, true_or, or_true, and_self, Nat.le_refl, Nat.lt_irrefl]; exact hv
    rcases hg.2.2 with ⟨b1, b2⟩ | ⟨b1, b2⟩
    · by_cases q : rk (od i) = R i
      · have key := go 1 (Or.inl ⟨rfl, b1, q⟩)
        rw [hX12_give 36]
        simp only [am_run_s, bt, lf, am_in, am_ar, am_fit, am_ld, am_ct, Nat.reduceLT, Nat.reduceEqDiff, reduceIte, Nat.reduceAdd, Nat.reduceLeDiff, Nat.reduceSub, Bool.false_eq_true, if_true, if_false, ite_true, ite_false, List.length_cons, List.length_nil, Nat.zero_add, Nat.add_zero, and_true, true_and, true_or, or_true, and_self, Nat.le_refl, Nat.lt_irrefl, gI_sI, gL_sL, gQ_sQ, gI_sJ, gI_sL, gI_sQ, gL_sI, gL_sQ, gL_sJ, gQ_sI, gQ_sL, gQ_sJ, gN_sI, gN_sL, gN_sQ, gN_sJ, E_b2_0, E_cS_a, E_cS_b, E_cV_a, E_cV_b, E_c_0, E_getI_0, E_getR_0, E_iald_0, E_iast_0, E_inc_a, E_inc_b, E_je_0, E_jg_0, E_jl_0, E_jmp_0, E_jp_0, E_jz_0, E_kk, E_ldI_a, E_ldI_b, E_ldR_a, E_ldR_b, E_putZ_0, E_rI_0, E_stI_0, aL_38, aL_59, aL_60, am_cc, am_nl, am_ok, am_pop, am_rt, am_set, cC_12, cC_38, cC_59, cC_60, rR_1305, rR_1360, rR_1363, kX12_give, kX12_give_0, kX12_give_1, hw, h2, b1, i01, h3, h4, h5, h6, eo, er, eR, q, am_b1, nI_1]
        exact key
      · have key := go 0 (Or.inr ⟨rfl, fun z => q z.2⟩)
        rw [hX12_give 36]
        simp only [am_run_s, bt, lf, am_in, am_ar, am_fit, am_ld, am_ct, Nat.reduceLT, Nat.reduceEqDiff, reduceIte, Nat.reduceAdd, Nat.reduceLeDiff, Nat.reduceSub, Bool.false_eq_true, if_true, if_false, ite_true, ite_false, List.length_cons, List.length_nil, Nat.zero_add, Nat.add_zero, and_true, true_and, true_or, or_true, and_self, Nat.le_refl, Nat.lt_irrefl, gI_sI, gL_sL, gQ_sQ, gI_sJ, gI_sL, gI_sQ, gL_sI, gL_sQ, gL_sJ, gQ_sI, gQ_sL, gQ_sJ, gN_sI, gN_sL, gN_sQ, gN_sJ, E_b2_0, E_cS_a, E_cS_b, E_cV_a, E_cV_b, E_c_0, E_getI_0, E_getR_0, E_iald_0, E_iast_0, E_inc_a, E_inc_b, E_je_0, E_jg_0, E_jl_0, E_jmp_0, E_jp_0, E_jz_0, E_kk, E_ldI_a, E_ldI_b, E_ldR_a, E_ldR_b, E_putZ_0, E_rI_0, E_stI_0, aL_38, aL_59, aL_60, am_cc, am_nl, am_ok, am_pop, am_rt, am_set, cC_12, cC_38, cC_59, cC_60, rR_1305, rR_1360, rR_1363, kX12_give, kX12_give_0, kX12_give_1, hw, h2, b1, i01, h3, h4, h5, h6, eo, er, eR, q, am_b0, nI_1]
        exact key
    · have key := go 0 (Or.inr ⟨rfl, fun z => by rw [b1] at z; exact absurd z.1 (by decide)⟩)
      rw [hX12_give 24]
      simp only [am_run_s, bt, lf, am_in, am_ar, am_fit, am_ld, am_ct, Nat.reduceLT, Nat.reduceEqDiff, reduceIte, Nat.reduceAdd, Nat.reduceLeDiff, Nat.reduceSub, Bool.false_eq_true, if_true, if_false, ite_true, ite_false, List.length_cons, List.length_nil, Nat.zero_add, Nat.add_zero, and_true, true_and, true_or, or_true, and_self, Nat.le_refl, Nat.lt_irrefl, gI_sI, gL_sL, gQ_sQ, gI_sJ, gI_sL, gI_sQ, gL_sI, gL_sQ, gL_sJ, gQ_sI, gQ_sL, gQ_sJ, gN_sI, gN_sL, gN_sQ, gN_sJ, E_b2_0, E_cS_a, E_cS_b, E_cV_a, E_cV_b, E_c_0, E_getI_0, E_getR_0, E_iald_0, E_iast_0, E_inc_a, E_inc_b, E_je_0, E_jg_0, E_jl_0, E_jmp_0, E_jp_0, E_jz_0, E_kk, E_ldI_a, E_ldI_b, E_ldR_a, E_ldR_b, E_putZ_0, E_rI_0, E_stI_0, aL_38, aL_59, aL_60, am_cc, am_nl, am_ok, am_pop, am_rt, am_set, cC_12, cC_38, cC_59, cC_60, rR_1305, rR_1360, rR_1363, kX12_give, kX12_give_0, kX12_give_1, hw, h2, b1, h3, h4, h5, h6, eo, eR, am_b0, nI_1]
      exact key
theorem give_inv {k : Nat} {σ σ2 σ4 : HS} (h : Inv k σ) (f2 : frm PGX σ σ2) (f34 : frm PGM σ2 σ4) (hv : v_rnk σ4 σ4) (ho : v_ord σ4 σ4) : Inv (k + 1) σ4 := by
  obtain ⟨J2, rfl⟩ := f2.el
  obtain ⟨J4, rfl⟩ := f34.el
  exact ⟨h.1, ⟨h.2.1.1, h.2.1.2.1, hv, h.2.1.2.2.2⟩, h.2.2.1.up, h.2.2.2.1, h.2.2.2.2.1, h.2.2.2.2.2.1, ho, h.2.2.2.2.2.2.2⟩
theorem give_fin {k : Nat} {σ σ1 σ2 σ3 σ4 : HS} (h : Inv k σ) {od : Nat → Nat} (o1 : ∀ j, j < gN σ 10 → od j < gN σ 10) (o2 : ∀ a b, a < gN σ 10 → b < gN σ 10 → a ≠ b → od a ≠ od b)
    (w1 : ∀ i, i < gN σ 10 → gI σ 23 i = gI σ 59 i ∧ ∃ p : Nat, p < gN σ 10 ∧ gI σ 59 i = nI p) (w2 : ∀ i j, i < gN σ 10 → j < gN σ 10 → i ≠ j → gI σ 59 i ≠ gI σ 59 j)
    (r1 : ∀ j, j < gN σ 10 → gI σ1 24 (cK (gI σ 38) (gN σ 10) (kI (gI σ 38 j))) = gI σ 38 j)
    (f2 : frm PGX σ σ2) (f34 : frm PGM σ2 σ4) (s3 : SRT (gN σ 10) (gI σ 38) (gI σ3 60))
    (g2 : gvI (gN σ 10) od (gI σ 38) (gI σ1 24) (gN σ 10) (gI σ2 1102) (gI σ2 106 0))
    (g4 : gvI (gN σ 10) od (gI σ 38) (gI σ3 60) (gN σ 10) (gI σ4 38) (gI σ4 1361 0)) : v_rnk σ4 σ4 ∧ v_ord σ4 σ4 := by
  -- both sorted ones are the same
  have same : ∀ a, a < gN σ 10 → gI σ1 24 a = gI σ3 60 a ∧ ∃ i, i < gN σ 10 ∧ gI σ3 60 a = gI σ 38 i := by
    intro a ha
    obtain ⟨i, i1, i2⟩ := s3.2.2.1 a ha
    have e := s3.at ha i2
    have := r1 i i1
    rw [e] at this
    exact ⟨by rw [this, i2], i, i1, i2⟩
  have hgn : gN σ4 10 = gN σ 10 := by rw [f34.gn, f2.gn]
  have rX : ∀ w, gI σ4 1102 w = gI σ2 1102 w := fun w => f34.gi rfl
  have oX : gI σ4 106 0 = gI σ2 106 0 := f34.gi rfl
  have place : ∀ w, w < gN σ 10 → ∃ a, a < gN σ 10 ∧ od a = w := fun w hw => onto o1 o2 hw
  have valid : ∀ w, w < gN σ 10 → ∃ r : Nat, gI σ 38 w = nI r ∧ r < 536872960 := fun w hw => (h.2.1.2.2.1.1 w hw).2
  have hv : v_rnk σ4 σ4 := by
    refine ⟨fun w hw => ?_, fun w w' hw hw' hne => ?_⟩
    · rw [hgn] at hw
      obtain ⟨a, a1, rfl⟩ := place w hw
      obtain ⟨e1, i, i1, i2⟩ := same a a1
      refine ⟨by rw [rX, g2.1 a a1, g4.1 a a1]; exact e1, ?_⟩
      rw [g4.1 a a1, i2]
      exact valid i i1
    · rw [hgn] at hw hw'
      obtain ⟨a, a1, rfl⟩ := place w hw
      obtain ⟨b, b1, rfl⟩ := place w' hw'
      rw [g4.1 a a1, g4.1 b b1]
      have hab : a ≠ b := fun e => hne (by rw [e])
      intro e
      rcases Nat.lt_or_ge a b with q | q
      · have := s3.1 a b q b1
        rw [e] at this
        exact i32_irr _ this
      · have := s3.1 b a (by omega) a1
        rw [e] at this
        exact i32_irr _ this
  have hiff : (∀ j, j < gN σ 10 → gI σ 38 (od j) = gI σ1 24 j) ↔ ∀ j, j < gN σ 10 → gI σ 38 (od j) = gI σ3 60 j := by
    constructor
    · intro y j hj; rw [y j hj]; exact (same j hj).1
    · intro y j hj; rw [y j hj]; exact (same j hj).1.symm
  have ho : v_ord σ4 σ4 := by
    refine ⟨?_, ?_, fun y => ⟨fun i hi => ?_, fun i j hi hj hij => ?_⟩⟩
    · rw [oX]
      rcases g2.2.2 with ⟨b1, b2⟩ | ⟨b1, b2⟩
      · rcases g4.2.2 with ⟨c1, c2⟩ | ⟨c1, c2⟩
        · rw [b1, c1]
        · exact absurd (hiff.mp b2) c2
      · rcases g4.2.2 with ⟨c1, c2⟩ | ⟨c1, c2⟩
        · exact absurd (hiff.mpr c2) b2
        · rw [b1, c1]
    · rcases g4.2.2 with ⟨c1, -⟩ | ⟨c1, -⟩
      · rw [c1]; exact Or.inr rfl
      · rw [c1]; exact Or.inl rfl
    · rw [hgn] at hi ⊢
      rw [f34.gi rfl, f2.gi rfl, f34.gi rfl, f2.gi rfl]
      exact w1 i hi
    · rw [hgn] at hi hj
      rw [f34.gi rfl, f2.gi rfl, f34.gi rfl, f2.gi rfl]
      exact w2 i j hi hj hij
  exact ⟨hv, ho⟩
theorem give_X {k : Nat} {σ : HS} (h : Inv k σ) {od : Nat → Nat} (o1 : ∀ j, j < gN σ 10 → od j < gN σ 10) (o2 : ∀ a b, a < gN σ 10 → b < gN σ 10 → a ≠ b → od a ≠ od b) (o3 : ∀ j, j < gN σ 10 → gI σ 23 j = nI (od j)) (v1 : gI σ 106 0 = 1) {Q : PO}
    (hQ : ∀ σ1 σ2, (∀ j, j < gN σ 10 → gI σ1 24 (cK (gI σ 38) (gN σ 10) (kI (gI σ 38 j))) = gI σ 38 j) → frm PGX σ σ2 → gvI (gN σ 10) od (gI σ 38) (gI σ1 24) (gN σ 10) (gI σ2 1102) (gI σ2 106 0) → Q none σ2) : MM 12 [.inr (.inr (some (0, 0)))] σ Q := by
  rw [eX0_giveRanks 4]
  simp only [am_run_s, bt, lf, am_in, am_ar, am_fit, am_ld, am_ct, Nat.reduceLT, Nat.reduceEqDiff, reduceIte, Nat.reduceAdd, Nat.reduceLeDiff, Nat.reduceSub, Bool.false_eq_true, if_true, if_false, ite_true, ite_false, List.length_cons, List.length_nil, Nat.zero_add, Nat.add_zero, and_true, true_and, true_or, or_true, and_self, Nat.le_refl, Nat.lt_irrefl, gI_sI, gL_sL, gQ_sQ, gI_sJ, gI_sL, gI_sQ, gL_sI, gL_sQ, gL_sJ, gQ_sI, gQ_sL, gQ_sJ, gN_sI, gN_sL, gN_sQ, gN_sJ, E_cV_a, E_cV_b, E_c_0, E_getI_0, E_getR_0, E_iald_0, E_inc_a, E_inc_b, E_je_0, E_jl_0, E_jmp_0, E_jnull_0, E_jnull_1, E_kk, E_ldI_a, E_ldI_b, E_ldR_a, E_ldR_b, E_putI_0, E_putZ_0, E_rV_0, E_stI_0, E_stR_0, aL_24, am_cc, am_nl, am_ok, am_pop, am_rt, am_set, cC_0, cC_10, cC_24, cC_6, rR_100, rR_105, kX0_giveRanks]
  rw [eX0_sortRanks 2]
  simp only [am_run_s, bt, lf, am_in, am_ar, am_fit, am_ld, am_ct, Nat.reduceLT, Nat.reduceEqDiff, reduceIte, Nat.reduceAdd, Nat.reduceLeDiff, Nat.reduceSub, Bool.false_eq_true, if_true, if_false, ite_true, ite_false, List.length_cons, List.length_nil, Nat.zero_add, Nat.add_zero, and_true, true_and, true_or, or_true, and_self, Nat.le_refl, Nat.lt_irrefl, gI_sI, gL_sL, gQ_sQ, gI_sJ, gI_sL, gI_sQ, gL_sI, gL_sQ, gL_sJ, gQ_sI, gQ_sL, gQ_sJ, gN_sI, gN_sL, gN_sQ, gN_sJ, E_aald_0, E_cV_a, E_cV_b, E_c_0, E_getI_0, E_getR_0, E_iast_0, E_inc_a, E_inc_b, E_jl_0, E_jmp_0, E_jz_0, E_kk, E_ldI_a, E_ldI_b, E_ldR_a, E_ldR_b, E_rV_0, E_stI_0, aL_24, aL_91, am_cc, am_nl, am_ok, am_pop, am_rt, am_set, cC_0, cC_10, cC_24, cC_6, cC_91, rQ_91, rR_100, rR_105, rR_701, sN_91, kX0_sortRanks]
  refine l_sort1 h (gN σ 10) 0 σ _ _ (by omega) frm.rf (fun _ y => absurd y (by omega)) (fun σ1 f1 r1 => ?_)
  simp only [am_run_s, bt, lf, am_in, am_ar, am_fit, am_ld, am_ct, Nat.reduceLT, Nat.reduceEqDiff, reduceIte, Nat.reduceAdd, Nat.reduceLeDiff, Nat.reduceSub, Bool.false_eq_true, if_true, if_false, ite_true, ite_false, List.length_cons, List.length_nil, Nat.zero_add, Nat.add_zero, and_true, true_and, true_or, or_true, and_self, Nat.le_refl, Nat.lt_irrefl, gI_sI, gL_sL, gQ_sQ, gI_sJ, gI_sL, gI_sQ, gL_sI, gL_sQ, gL_sJ, gQ_sI, gQ_sL, gQ_sJ, gN_sI, gN_sL, gN_sQ, gN_sJ, E_cV_a, E_cV_b, E_c_0, E_getI_0, E_getR_0, E_iald_0, E_inc_a, E_inc_b, E_je_0, E_jl_0, E_jmp_0, E_jnull_0, E_jnull_1, E_kk, E_ldI_a, E_ldI_b, E_ldR_a, E_ldR_b, E_putI_0, E_putZ_0, E_rV_0, E_stI_0, E_stR_0, aL_24, am_cc, am_nl, am_ok, am_pop, am_rt, am_set, cC_0, cC_10, cC_24, cC_6, rR_100, rR_105, kX0_giveRanks]
  have g0 : gvI (gN σ 10) od (gI σ 38) (gI σ1 24) 0 (gI σ1 1102) (gI σ1 106 0) := by
    refine ⟨fun j hj => absurd hj (by omega), fun w hw _ => ?_, Or.inl ⟨?_, fun j hj => absurd hj (by omega)⟩⟩
    · rw [f1.gi rfl]; exact (h.2.1.2.2.1.1 w hw).1
    · rw [f1.gi rfl]; exact v1
  exact l_giveX h o1 o2 o3 (gN σ 10) 0 σ1 _ (by omega) (f1.mo PGX_S) (fun j _ => rfl) g0 (fun σ2 f2 g2 => hQ σ1 σ2 r1 f2 g2)
theorem cntP_0 (p : Nat → Prop) (d : ∀ i, Decidable (p i)) : cntP p d 0 = 0 := rfl
theorem SRT_0 (rk R : Nat → Int32) : SRT 0 rk R := ⟨fun a b _ hb => absurd hb (by omega), fun i hi => absurd hi (by omega), fun a ha => absurd ha (by omega), fun x => by unfold cK; rw [cntP_0, cntP_0]⟩
theorem give_M {n : Nat} {od : Nat → Nat} {rk : Nat → Int32} {σ : HS} (hn : n ≤ 24) (hd : keyD n rk) (o1 : ∀ j, j < n → od j < n) (o2 : ∀ a b, a < n → b < n → a ≠ b → od a ≠ od b) (hw : gI σ 1314 0 = nI n) (hrk : ∀ w, w < n → gI σ 38 w = rk w) (ho : ∀ j, j < n → gI σ 59 j = nI (od j)) (hi : gI σ 1361 0 = 1) {Q : PO}
    (hQ : ∀ σ3 σ4, frm PGM σ σ4 → SRT n rk (gI σ3 60) → gvI n od rk (gI σ3 60) n (gI σ4 38) (gI σ4 1361 0) → Q (some (.inl 1)) σ4) : MM 207 [.inr (.inr (some (12, 0)))] σ Q := by
  rw [eX12_give 6]
  simp only [am_run_s, bt, lf, am_in, am_ar, am_fit, am_ld, am_ct, Nat.reduceLT, Nat.reduceEqDiff, reduceIte, Nat.reduceAdd, Nat.reduceLeDiff, Nat.reduceSub, Bool.false_eq_true, if_true, if_false, ite_true, ite_false, List.length_cons, List.length_nil, Nat.zero_add, Nat.add_zero, and_true, true_and, true_or, or_true, and_self, Nat.le_refl, Nat.lt_irrefl, gI_sI, gL_sL, gQ_sQ, gI_sJ, gI_sL, gI_sQ, gL_sI, gL_sQ, gL_sJ, gQ_sI, gQ_sL, gQ_sJ, gN_sI, gN_sL, gN_sQ, gN_sJ, E_b2_0, E_cS_a, E_cS_b, E_cV_a, E_cV_b, E_c_0, E_getI_0, E_getR_0, E_iald_0, E_iast_0, E_inc_a, E_inc_b, E_je_0, E_jg_0, E_jl_0, E_jmp_0, E_jp_0, E_jz_0, E_kk, E_ldI_a, E_ldI_b, E_ldR_a, E_ldR_b, E_putZ_0, E_rI_0, E_stI_0, aL_38, aL_59, aL_60, am_cc, am_nl, am_ok, am_pop, am_rt, am_set, cC_12, cC_38, cC_59, cC_60, rR_1305, rR_1360, rR_1363, kX12_give, kX12_give_0, kX12_give_1, hi, i01]
  refine l_give16 (rk := rk) hn hd n 0 σ _ (by omega) hw hrk (SRT_0 _ _) (fun σ3 o f3 s3 => ?_)
  have g3 : gvI n od rk (gI σ3 60) 0 (gI σ3 38) (gI σ3 1361 0) := by
    refine ⟨fun j hj => absurd hj (by omega), fun w hw _ => ?_, Or.inl ⟨?_, fun j hj => absurd hj (by omega)⟩⟩
    · rw [f3.gi rfl]; exact hrk w hw
    · rw [f3.gi rfl]; exact hi
  exact l_giveM hn o1 o2 n 0 σ3 _ (by omega) (by rw [f3.gi rfl]; exact hw) (fun j hj => by rw [f3.gi rfl]; exact ho j hj) (fun j _ => rfl) g3 (fun σ4 f4 g4 => hQ σ3 σ4 ((f3.mo PGM_R).tr f4) s3 g4)
theorem give_no {k : Nat} {σ : HS} (h : Inv k σ) (v1 : gI σ 106 0 = 0) (z : gI σ 1361 0 = 0) : MM 121 [.inr (.inr (some (11, 0)))] σ (fun r σ' => MM 207 [.inr (.inr (some (12, 0)))] σ' (fun r2 σ'' => agI r r2 ∧ Inv (k + 1) σ'')) := by
  rw [eX11_give 9]
  simp only [am_run_s, bt, lf, am_in, am_ar, am_fit, am_ld, am_ct, Nat.reduceLT, Nat.reduceEqDiff, reduceIte, Nat.reduceAdd, Nat.reduceLeDiff, Nat.reduceSub, Bool.false_eq_true, if_true, if_false, ite_true, ite_false, List.length_cons, List.length_nil, Nat.zero_add, Nat.add_zero, and_true, true_and, true_or, or_true, and_self, Nat.le_refl, Nat.lt_irrefl, gI_sI, gL_sL, gQ_sQ, gI_sJ, gI_sL, gI_sQ, gL_sI, gL_sQ, gL_sJ, gQ_sI, gQ_sL, gQ_sJ, gN_sI, gN_sL, gN_sQ, gN_sJ, E_cV_a, E_cV_b, E_c_0, E_getI_0, E_getR_0, E_jz_0, E_kk, E_ldR_a, E_ldR_b, E_rI_0, am_cc, am_pop, am_rt, cC_0, cC_11, rR_1205, kX11_give, v1, ↓s_refuse2]
  rw [eX12_give 8]
  simp only [am_run_s, bt, lf, am_in, am_ar, am_fit, am_ld, am_ct, Nat.reduceLT, Nat.reduceEqDiff, reduceIte, Nat.reduceAdd, Nat.reduceLeDiff, Nat.reduceSub, Bool.false_eq_true, if_true, if_false, ite_true, ite_false, List.length_cons, List.length_nil, Nat.zero_add, Nat.add_zero, and_true, true_and, true_or, or_true, and_self, Nat.le_refl, Nat.lt_irrefl, gI_sI, gL_sL, gQ_sQ, gI_sJ, gI_sL, gI_sQ, gL_sI, gL_sQ, gL_sJ, gQ_sI, gQ_sL, gQ_sJ, gN_sI, gN_sL, gN_sQ, gN_sJ, E_b2_0, E_cS_a, E_cS_b, E_cV_a, E_cV_b, E_c_0, E_getI_0, E_getR_0, E_iald_0, E_iast_0, E_inc_a, E_inc_b, E_je_0, E_jg_0, E_jl_0, E_jmp_0, E_jp_0, E_jz_0, E_kk, E_ldI_a, E_ldI_b, E_ldR_a, E_ldR_b, E_putZ_0, E_rI_0, E_stI_0, aL_38, aL_59, aL_60, am_cc, am_nl, am_ok, am_pop, am_rt, am_set, cC_12, cC_38, cC_59, cC_60, rR_1305, rR_1360, rR_1363, kX12_give, kX12_give_0, kX12_give_1, z, ↓s_no2]
  exact ⟨⟨_, rfl, rfl⟩, h.refuse⟩
theorem od_ex {σ : HS} {n : Nat} (hn : n ≤ 24) (w1 : ∀ i, i < n → ∃ p : Nat, p < n ∧ gI σ 59 i = nI p) : ∃ od : Nat → Nat, ∀ j, j < n → gI σ 59 j = nI (od j) ∧ od j < n := by
  refine ⟨fun j => (gI σ 59 j).toNatClampNeg, fun j hj => ?_⟩
  obtain ⟨p, p1, p2⟩ := w1 j hj
  show gI σ 59 j = nI (gI σ 59 j).toNatClampNeg ∧ (gI σ 59 j).toNatClampNeg < n
  rw [p2, nI_clamp (by omega)]
  exact ⟨rfl, p1⟩
theorem api_give : apiI 121 207 [] := by
  intro k σ hk h
  obtain ⟨hw1, hw2, h24⟩ := h.wc
  obtain ⟨v1, v2, v3⟩ := h.2.2.2.2.2.2.1
  rcases v2 with z | z
  · rw [z] at v1
    exact give_no h v1 z
  · rw [z] at v1
    obtain ⟨w1, w2⟩ := v3 z
    obtain ⟨od, eo⟩ := od_ex h24 (fun i hi => (w1 i hi).2)
    have o1 : ∀ j, j < gN σ 10 → od j < gN σ 10 := fun j hj => (eo j hj).2
    have o4 : ∀ j, j < gN σ 10 → gI σ 59 j = nI (od j) := fun j hj => (eo j hj).1
    have o2 : ∀ a b, a < gN σ 10 → b < gN σ 10 → a ≠ b → od a ≠ od b := fun a b ha hb hab e => w2 a b ha hb hab (by rw [o4 a ha, o4 b hb, e])
    have o3 : ∀ j, j < gN σ 10 → gI σ 23 j = nI (od j) := fun j hj => by rw [(w1 j hj).1]; exact o4 j hj
    rw [eX11_give 9]
    simp only [am_run_s, bt, lf, am_in, am_ar, am_fit, am_ld, am_ct, Nat.reduceLT, Nat.reduceEqDiff, reduceIte, Nat.reduceAdd, Nat.reduceLeDiff, Nat.reduceSub, Bool.false_eq_true, if_true, if_false, ite_true, ite_false, List.length_cons, List.length_nil, Nat.zero_add, Nat.add_zero, and_true, true_and, true_or, or_true, and_self, Nat.le_refl, Nat.lt_irrefl, gI_sI, gL_sL, gQ_sQ, gI_sJ, gI_sL, gI_sQ, gL_sI, gL_sQ, gL_sJ, gQ_sI, gQ_sL, gQ_sJ, gN_sI, gN_sL, gN_sQ, gN_sJ, E_cV_a, E_cV_b, E_c_0, E_getI_0, E_getR_0, E_jz_0, E_kk, E_ldR_a, E_ldR_b, E_rI_0, am_cc, am_pop, am_rt, cC_0, cC_11, rR_1205, kX11_give, v1, i01]
    refine give_X h o1 o2 o3 v1 (fun σ1 σ2 r1 f2 g2 => ?_)
    simp only [am_run_s, bt, lf, am_in, am_ar, am_fit, am_ld, am_ct, Nat.reduceLT, Nat.reduceEqDiff, reduceIte, Nat.reduceAdd, Nat.reduceLeDiff, Nat.reduceSub, Bool.false_eq_true, if_true, if_false, ite_true, ite_false, List.length_cons, List.length_nil, Nat.zero_add, Nat.add_zero, and_true, true_and, true_or, or_true, and_self, Nat.le_refl, Nat.lt_irrefl, gI_sI, gL_sL, gQ_sQ, gI_sJ, gI_sL, gI_sQ, gL_sI, gL_sQ, gL_sJ, gQ_sI, gQ_sL, gQ_sJ, gN_sI, gN_sL, gN_sQ, gN_sJ, E_cV_a, E_cV_b, E_c_0, E_getI_0, E_getR_0, E_jz_0, E_kk, E_ldR_a, E_ldR_b, E_rI_0, am_cc, am_pop, am_rt, cC_0, cC_11, rR_1205, kX11_give]
    refine give_M h24 h.kd o1 o2 (by rw [f2.gi rfl]; exact hw2) (fun w _ => f2.gi rfl) (fun j hj => by rw [f2.gi rfl]; exact o4 j hj) (by rw [f2.gi rfl]; exact z) (fun σ3 σ4 f34 s3 g4 => ?_)
    have fin := give_fin h o1 o2 w1 w2 r1 f2 f34 s3 g2 g4
    exact ⟨⟨_, rfl, rfl⟩, give_inv h f2 f34 fin.1 fin.2⟩
