/-! ===== the desk: the class, weighing and the least numbers ===== -/
theorem bL_s (d : DC) (H : Nat → Bool) (wd k : Nat) : bL d H wd (k + 1) = if H k = true then bL d H wd k else if k = wd then bL d H wd k else if bL d H wd k < d.2.1 k then d.2.1 k else bL d H wd k := rfl
theorem bG_s (d : DC) (H : Nat → Bool) (wd k : Nat) : bG d H wd (k + 1) = if H k = true then (if bG d H wd k < d.2.1 k then d.2.1 k else bG d H wd k) else bG d H wd k := rfl
theorem costX {σ : HS} {d : DC} (hd : DX σ d) {k : Nat} (hk : k < d.1) (Q : PO) : MM 85 [.inr (.inr (some (10, k)))] σ Q ↔ Q (some (.inl (nI (d.2.1 k)))) σ := by
  rw [s_cost k σ Q (by rw [hd.1]; exact hk), (hd.2.2.1 k hk).2.2.1]
theorem l_weigh {d : DC} (ok : DOK d) {H : Nat → Bool} {wd : Nat} (hw : wd < d.1) {Q : PO} : ∀ (r i : Nat) (σ : HS), i + r = d.1 → DX σ d → HX σ H d.1 → (∀ k, k < i → gI σ 22 k = nI (d.2.1 k)) →
    (∀ σ', frm PWG σ σ' → gI σ' 108 0 = nI (bL d H wd d.1 - 1) → gI σ' 109 0 = nI (18 + bG d H wd d.1) → (∀ k, k < d.1 → gI σ' 22 k = nI (d.2.1 k)) → Q none σ') →
    am_T (kX0_weigh S1) MM Q 10 [some (.inr (.inr (some (0, 0)))), some (.inr (.inr (some (10, wd)))), some (.inl (nI (bL d H wd i))), some (.inl (nI (bG d H wd i))), some (.inl (nI i))] [] σ 0 0 := by
  have h24 := ok.1
  intro r
  induction r with
  | zero =>
    intro i σ hi hd hH hC hQ
    have e : i = d.1 := by omega
    subst e
    have b1 := bL_bd ok H wd d.1 (Nat.le_refl _)
    rw [hX0_weigh 17]
    have h0 : ¬ nI d.1 < nI d.1 := nI_nlt (by omega) (by omega)
    have e18 : (18 : Int32) = nI 18 := by decide
    have h2 : (18 : Int32) + nI (bG d H wd d.1) = nI (18 + bG d H wd d.1) := by rw [e18, nI_add]
    have hz : (if nI (bL d H wd d.1) - 1 < 0 then (0 : Int32) else nI (bL d H wd d.1) - 1) = nI (bL d H wd d.1 - 1) := by
      cases hb : bL d H wd d.1 with
      | zero => decide
      | succ n =>
        rw [nI_m1, if_neg (nI_pos (by omega))]; rfl
    simp only [am_run_s, bt, lf, am_in, am_ar, am_fit, am_ld, am_ct, Nat.reduceLT, Nat.reduceEqDiff, reduceIte, Nat.reduceAdd, Nat.reduceLeDiff, Nat.reduceSub, Bool.false_eq_true, if_true, if_false, ite_true, ite_false, List.length_cons, List.length_nil, Nat.zero_add, Nat.add_zero, and_true, true_and, true_or, or_true, and_self, Nat.le_refl, Nat.lt_irrefl, gI_sI, gL_sL, gQ_sQ, gI_sJ, gI_sL, gI_sQ, gL_sI, gL_sQ, gL_sJ, gQ_sI, gQ_sL, gQ_sJ, gN_sI, gN_sL, gN_sQ, gN_sJ, E_aald_0, E_b2_0, E_bald_0, E_cV_a, E_cV_b, E_c_0, E_getI_0, E_getR_0, E_iald_0, E_iast_0, E_inc_a, E_inc_b, E_je_0, E_jl_0, E_jmp_0, E_jz_0, E_kk, E_ldI_a, E_ldI_b, E_ldR_a, E_ldR_b, E_max_0, E_putI_0, E_rV_0, E_stI_0, aL_22, aL_70, aL_91, am_cc, am_nl, am_ok, am_pop, am_rt, am_set, cC_0, cC_10, cC_22, cC_6, cC_70, cC_91, rQ_91, rR_100, rR_101, rR_103, rR_701, sN_91, kX0_weigh, kX0_weigh_0, kX0_weigh_1, hd.2.1, h0, hz, h2]
    refine hQ _ ((frm.rf.si rfl).si rfl) ?_ ?_ (fun k hk => ?_)
    · simp only [gI_sI, gL_sL, gQ_sQ, gI_sJ, gI_sL, gI_sQ, gL_sI, gL_sQ, gL_sJ, gQ_sI, gQ_sL, gQ_sJ, gN_sI, gN_sL, gN_sQ, gN_sJ, Nat.reduceLT, Nat.reduceEqDiff, reduceIte, Nat.reduceAdd, Nat.reduceLeDiff, Nat.reduceSub, Bool.false_eq_true, if_true, if_false, ite_true, ite_false, List.length_cons, List.length_nil, Nat.zero_add, Nat.add_zero, and_true, true_and, true_or, or_true, and_self, Nat.le_refl, Nat.lt_irrefl]
    · simp only [gI_sI, gL_sL, gQ_sQ, gI_sJ, gI_sL, gI_sQ, gL_sI, gL_sQ, gL_sJ, gQ_sI, gQ_sL, gQ_sJ, gN_sI, gN_sL, gN_sQ, gN_sJ, Nat.reduceLT, Nat.reduceEqDiff, reduceIte, Nat.reduceAdd, Nat.reduceLeDiff, Nat.reduceSub, Bool.false_eq_true, if_true, if_false, ite_true, ite_false, List.length_cons, List.length_nil, Nat.zero_add, Nat.add_zero, and_true, true_and, true_or, or_true, and_self, Nat.le_refl, Nat.lt_irrefl]
    · simp only [gI_sI, gL_sL, gQ_sQ, gI_sJ, gI_sL, gI_sQ, gL_sI, gL_sQ, gL_sJ, gQ_sI, gQ_sL, gQ_sJ, gN_sI, gN_sL, gN_sQ, gN_sJ, Nat.reduceLT, Nat.reduceEqDiff, reduceIte, Nat.reduceAdd, Nat.reduceLeDiff, Nat.reduceSub, Bool.false_eq_true, if_true, if_false, ite_true, ite_false, List.length_cons, List.length_nil, Nat.zero_add, Nat.add_zero, and_true, true_and, true_or, or_true, and_self, Nat.le_refl, Nat.lt_irrefl]; exact hC k hk
  | succ r ih =>
    intro i σ hi hd hH hC hQ
    have hk : i < d.1 := by omega
    have h2 := nI_t hk (by omega)
    have h3 : vp_in (nI i) 24 := vp_in_nI (by omega) (by omega)
    have h4 : (nI i).toNatClampNeg = i := nI_clamp (by omega)
    have hb := hH i hk
    have hq := (hd.2.2.1 i hk).1
    have hg : i < gN σ 10 := by rw [hd.1]; exact hk
    have hgw : wd < gN σ 10 := by rw [hd.1]; exact hw
    have hnw := (hd.2.2.1 wd hw).2.1
    have cc := ok.2.1 i hk
    have b1 := bL_bd ok H wd i (by omega)
    have b2 := bG_bd ok H hw i (by omega)
    have f0 : frm PWG σ (sI σ 22 i (nI (d.2.1 i))) := frm.rf.si rfl
    have := ih (i + 1) (sI σ 22 i (nI (d.2.1 i))) (by omega) (hd.fx f0 rfl rfl rfl rfl rfl rfl rfl) (fun k hk => by rw [f0.gi rfl]; exact hH k hk) (fun k hk => by
      simp only [gI_sI, gL_sL, gQ_sQ, gI_sJ, gI_sL, gI_sQ, gL_sI, gL_sQ, gL_sJ, gQ_sI, gQ_sL, gQ_sJ, gN_sI, gN_sL, gN_sQ, gN_sJ, Nat.reduceLT, Nat.reduceEqDiff, reduceIte, Nat.reduceAdd, Nat.reduceLeDiff, Nat.reduceSub, Bool.false_eq_true, if_true, if_false, ite_true, ite_false, List.length_cons, List.length_nil, Nat.zero_add, Nat.add_zero, and_true, true_and, true_or, or_true, and_self, Nat.le_refl, Nat.lt_irrefl]
      by_cases e : k = i
      · rw [if_pos e, e]
      · rw [if_neg e]; exact hC k (by omega)) (fun σ' f1 a1 a2 a3 => hQ σ' (f0.tr f1) a1 a2 a3)
    rw [bL_s, bG_s] at this
    rw [hX0_weigh 33]
    cases e : H i with
    | true =>
      have e0 : (bb (H i) = 0) = False := by rw [bb_0, e]; simp
      rw [if_pos e, if_pos e] at this
      by_cases q : bG d H wd i < d.2.1 i
      · have q' := nI_t q (by omega)
        rw [if_pos q] at this
        simp only [am_run_s, bt, lf, am_in, am_ar, am_fit, am_ld, am_ct, Nat.reduceLT, Nat.reduceEqDiff, reduceIte, Nat.reduceAdd, Nat.reduceLeDiff, Nat.reduceSub, Bool.false_eq_true, if_true, if_false, ite_true, ite_false, List.length_cons, List.length_nil, Nat.zero_add, Nat.add_zero, and_true, true_and, true_or, or_true, and_self, Nat.le_refl, Nat.lt_irrefl, gI_sI, gL_sL, gQ_sQ, gI_sJ, gI_sL, gI_sQ, gL_sI, gL_sQ, gL_sJ, gQ_sI, gQ_sL, gQ_sJ, gN_sI, gN_sL, gN_sQ, gN_sJ, E_aald_0, E_b2_0, E_bald_0, E_cV_a, E_cV_b, E_c_0, E_getI_0, E_getR_0, E_iald_0, E_iast_0, E_inc_a, E_inc_b, E_je_0, E_jl_0, E_jmp_0, E_jz_0, E_kk, E_ldI_a, E_ldI_b, E_ldR_a, E_ldR_b, E_max_0, E_putI_0, E_rV_0, E_stI_0, aL_22, aL_70, aL_91, am_cc, am_nl, am_ok, am_pop, am_rt, am_set, cC_0, cC_10, cC_22, cC_6, cC_70, cC_91, rQ_91, rR_100, rR_101, rR_103, rR_701, sN_91, kX0_weigh, kX0_weigh_0, kX0_weigh_1, hd.2.1, h2, h3, h4, hq, hg, cC_10, ↓costX hd hk, hb, e0, q', nI_1]
        exact this
      · have q' : ¬ nI (bG d H wd i) < nI (d.2.1 i) := nI_nlt (by omega) (by omega)
        rw [if_neg q] at this
        simp only [am_run_s, bt, lf, am_in, am_ar, am_fit, am_ld, am_ct, Nat.reduceLT, Nat.reduceEqDiff, reduceIte, Nat.reduceAdd, Nat.reduceLeDiff, Nat.reduceSub, Bool.false_eq_true, if_true, if_false, ite_true, ite_false, List.length_cons, List.length_nil, Nat.zero_add, Nat.add_zero, and_true, true_and, true_or, or_true, and_self, Nat.le_refl, Nat.lt_irrefl, gI_sI, gL_sL, gQ_sQ, gI_sJ, gI_sL, gI_sQ, gL_sI, gL_sQ, gL_sJ, gQ_sI, gQ_sL, gQ_sJ, gN_sI, gN_sL, gN_sQ, gN_sJ, E_aald_0, E_b2_0, E_bald_0, E_cV_a, E_cV_b, E_c_0, E_getI_0, E_getR_0, E_iald_0, E_iast_0, E_inc_a, E_inc_b, E_je_0, E_jl_0, E_jmp_0, E_jz_0, E_kk, E_ldI_a, E_ldI_b, E_ldR_a, E_ldR_b, E_max_0, E_putI_0, E_rV_0, E_stI_0, aL_22, aL_70, aL_91, am_cc, am_nl, am_ok, am_pop, am_rt, am_set, cC_0, cC_10, cC_22, cC_6, cC_70, cC_91, rQ_91, rR_100, rR_101, rR_103, rR_701, sN_91, kX0_weigh, kX0_weigh_0, kX0_weigh_1, hd.2.1, h2, h3, h4, hq, hg, cC_10, ↓costX hd hk, hb, e0, q', nI_1]
        exact this
    | false =>
      have e0 : (bb (H i) = 0) = True := by rw [bb_0, e]; simp
      have hne : ¬ H i = true := by rw [e]; decide
      rw [if_neg hne, if_neg hne] at this
      by_cases z : i = wd
      · have z' : (nI i = nI wd) = True := eq_true (by rw [z])
        rw [if_pos z] at this
        simp only [am_run_s, bt, lf, am_in, am_ar, am_fit, am_ld, am_ct, Nat.reduceLT, Nat.reduceEqDiff, reduceIte, Nat.reduceAdd, Nat.reduceLeDiff, Nat.reduceSub, Bool.false_eq_true, if_true, if_false, ite_true, ite_false, List.length_cons, List.length_nil, Nat.zero_add, Nat.add_zero, and_true, true_and, true_or, or_true, and_self, Nat.le_refl, Nat.lt_irrefl, gI_sI, gL_sL, gQ_sQ, gI_sJ, gI_sL, gI_sQ, gL_sI, gL_sQ, gL_sJ, gQ_sI, gQ_sL, gQ_sJ, gN_sI, gN_sL, gN_sQ, gN_sJ, E_aald_0, E_b2_0, E_bald_0, E_cV_a, E_cV_b, E_c_0, E_getI_0, E_getR_0, E_iald_0, E_iast_0, E_inc_a, E_inc_b, E_je_0, E_jl_0, E_jmp_0, E_jz_0, E_kk, E_ldI_a, E_ldI_b, E_ldR_a, E_ldR_b, E_max_0, E_putI_0, E_rV_0, E_stI_0, aL_22, aL_70, aL_91, am_cc, am_nl, am_ok, am_pop, am_rt, am_set, cC_0, cC_10, cC_22, cC_6, cC_70, cC_91, rQ_91, rR_100, rR_101, rR_103, rR_701, sN_91, kX0_weigh, kX0_weigh_0, kX0_weigh_1, hd.2.1, h2, h3, h4, hq, hg, hgw, hnw, cC_10, ↓costX hd hk, hb, e0, z', nI_1]
        exact this
      · have z' : (nI i = nI wd) = False := eq_false (fun y => z ((nI_eq (by omega) (by omega)).mp y))
        rw [if_neg z] at this
        by_cases q : bL d H wd i < d.2.1 i
        · have q' := nI_t q (by omega)
          rw [if_pos q] at this
          simp only [am_run_s, bt, lf, am_in, am_ar, am_fit, am_ld, am_ct, Nat.reduceLT, Nat.reduceEqDiff, reduceIte, Nat.reduceAdd, Nat.reduceLeDiff, Nat.reduceSub, Bool.false_eq_true, if_true, if_false, ite_true, ite_false, List.length_cons, List.length_nil, Nat.zero_add, Nat.add_zero, and_true, true_and, true_or, or_true, and_self, Nat.le_refl, Nat.lt_irrefl, gI_sI, gL_sL, gQ_sQ, gI_sJ, gI_sL, gI_sQ, gL_sI, gL_sQ, gL_sJ, gQ_sI, gQ_sL, gQ_sJ, gN_sI, gN_sL, gN_sQ, gN_sJ, E_aald_0, E_b2_0, E_bald_0, E_cV_a, E_cV_b, E_c_0, E_getI_0, E_getR_0, E_iald_0, E_iast_0, E_inc_a, E_inc_b, E_je_0, E_jl_0, E_jmp_0, E_jz_0, E_kk, E_ldI_a, E_ldI_b, E_ldR_a, E_ldR_b, E_max_0, E_putI_0, E_rV_0, E_stI_0, aL_22, aL_70, aL_91, am_cc, am_nl, am_ok, am_pop, am_rt, am_set, cC_0, cC_10, cC_22, cC_6, cC_70, cC_91, rQ_91, rR_100, rR_101, rR_103, rR_701, sN_91, kX0_weigh, kX0_weigh_0, kX0_weigh_1, hd.2.1, h2, h3, h4, hq, hg, hgw, hnw, cC_10, ↓costX hd hk, hb, e0, z', q', nI_1]
          exact this
        · have q' : ¬ nI (bL d H wd i) < nI (d.2.1 i) := nI_nlt (by omega) (by omega)
          rw [if_neg q] at this
          simp only [am_run_s, bt, lf, am_in, am_ar, am_fit, am_ld, am_ct, Nat.reduceLT, Nat.reduceEqDiff, reduceIte, Nat.reduceAdd, Nat.reduceLeDiff, Nat.reduceSub, Bool.false_eq_true, if_true, if_false, ite_true, ite_false, List.length_cons, List.length_nil, Nat.zero_add, Nat.add_zero, and_true, true_and, true_or, or_true, and_self, Nat.le_refl, Nat.lt_irrefl, gI_sI, gL_sL, gQ_sQ, gI_sJ, gI_sL, gI_sQ, gL_sI, gL_sQ, gL_sJ, gQ_sI, gQ_sL, gQ_sJ, gN_sI, gN_sL, gN_sQ, gN_sJ, E_aald_0, E_b2_0, E_bald_0, E_cV_a, E_cV_b, E_c_0, E_getI_0, E_getR_0, E_iald_0, E_iast_0, E_inc_a, E_inc_b, E_je_0, E_jl_0, E_jmp_0, E_jz_0, E_kk, E_ldI_a, E_ldI_b, E_ldR_a, E_ldR_b, E_max_0, E_putI_0, E_rV_0, E_stI_0, aL_22, aL_70, aL_91, am_cc, am_nl, am_ok, am_pop, am_rt, am_set, cC_0, cC_10, cC_22, cC_6, cC_70, cC_91, rQ_91, rR_100, rR_101, rR_103, rR_701, sN_91, kX0_weigh, kX0_weigh_0, kX0_weigh_1, hd.2.1, h2, h3, h4, hq, hg, hgw, hnw, cC_10, ↓costX hd hk, hb, e0, z', q', nI_1]
          exact this
theorem c_weigh {d : DC} (ok : DOK d) {H : Nat → Bool} {wd : Nat} (hw : wd < d.1) {Q : PO} {σ : HS} (hd : DX σ d) (hH : HX σ H d.1)
    (hQ : ∀ σ', frm PWG σ σ' → gI σ' 108 0 = nI (bL d H wd d.1 - 1) → gI σ' 109 0 = nI (18 + bG d H wd d.1) → (∀ k, k < d.1 → gI σ' 22 k = nI (d.2.1 k)) → Q none σ') : MM 5 [.inr (.inr (some (0, 0))), .inr (.inr (some (10, wd)))] σ Q := by
  rw [eX0_weigh 8]
  simp only [am_run_s, bt, lf, am_in, am_ar, am_fit, am_ld, am_ct, Nat.reduceLT, Nat.reduceEqDiff, reduceIte, Nat.reduceAdd, Nat.reduceLeDiff, Nat.reduceSub, Bool.false_eq_true, if_true, if_false, ite_true, ite_false, List.length_cons, List.length_nil, Nat.zero_add, Nat.add_zero, and_true, true_and, true_or, or_true, and_self, Nat.le_refl, Nat.lt_irrefl, gI_sI, gL_sL, gQ_sQ, gI_sJ, gI_sL, gI_sQ, gL_sI, gL_sQ, gL_sJ, gQ_sI, gQ_sL, gQ_sJ, gN_sI, gN_sL, gN_sQ, gN_sJ, E_aald_0, E_b2_0, E_bald_0, E_cV_a, E_cV_b, E_c_0, E_getI_0, E_getR_0, E_iald_0, E_iast_0, E_inc_a, E_inc_b, E_je_0, E_jl_0, E_jmp_0, E_jz_0, E_kk, E_ldI_a, E_ldI_b, E_ldR_a, E_ldR_b, E_max_0, E_putI_0, E_rV_0, E_stI_0, aL_22, aL_70, aL_91, am_cc, am_nl, am_ok, am_pop, am_rt, am_set, cC_0, cC_10, cC_22, cC_6, cC_70, cC_91, rQ_91, rR_100, rR_101, rR_103, rR_701, sN_91, kX0_weigh, kX0_weigh_0, kX0_weigh_1, ↓costX hd hw, cC_10, show wd < gN σ 10 by rw [hd.1]; exact hw]
  exact l_weigh ok hw d.1 0 σ (by omega) hd hH (fun _ z => absurd z (by omega)) hQ
/-- all that the least numbers rest on -/
def LX (σ : HS) (d : DC) (H : Nat → Bool) (wd : Nat) : Prop := DX σ d ∧ HX σ H d.1 ∧ gI σ 108 0 = nI (bL d H wd d.1 - 1) ∧ gI σ 109 0 = nI (18 + bG d H wd d.1) ∧ ∀ k, k < d.1 → gI σ 22 k = nI (d.2.1 k)
theorem n30 : (30000 : Int32) = nI 30000 := by decide
theorem least_B {d : DC} (ok : DOK d) {H : Nat → Bool} {wd : Nat} (hw : wd < d.1) {Q : PO} {σ : HS} (hl : LX σ d H wd) {st : Int32} (x i : Nat) (o6 o7 o8 : Option AV) (hx : 1 ≤ x) (hx2 : x ≤ 30000) (hi : i ≤ x)
    (h1 : fBz d H wd x = x → Q (some (.inl (nI x))) σ) (h2 : 30000 < fBz d H wd x → Q (some (.inl (-1))) σ)
    (h3 : ¬ fBz d H wd x = x → fBz d H wd x ≤ 30000 → ∀ o6 o7 o8, am_T (kX0_leastFrom S1) MM Q 6 [some (.inr (.inr (some (0, 0)))), some (.inl st), some (.inr (.inr (some (10, wd)))), some (.inl (-1)), some (.inl (nI (fBz d H wd x))), some (.inl (nI (i + 1))), o6, o7, o8] [] σ 0 0) :
    am_T (kX0_leastFrom S1) MM Q 6 [some (.inr (.inr (some (0, 0)))), some (.inl st), some (.inr (.inr (some (10, wd)))), some (.inl (-1)), some (.inl (nI x)), some (.inl (nI i)), o6, o7, o8] [] σ 0 0 := by
  obtain ⟨hd, hH, hB, hF, hC⟩ := hl
  have hgw : wd < gN σ 10 := by rw [hd.1]; exact hw
  have hm : nI x - 1 = nI (x - 1) := by rw [one', pk_sub hx]
  have q0 : ¬ 30000 < nI i := by rw [n30]; exact nI_nlt (by omega) (by omega)
  have bb1 := bL_bd ok H wd d.1 (Nat.le_refl _)
  have bb2 := flt_bd ok H hx2 hw
  have bb3 := plC_bd ok (show x - 1 ≤ 30000 by omega) hw
  have bb4 := hsm_bd ok H (show x - 1 ≤ 30000 by omega) (Nat.le_refl d.1)
  have ev : nI (bL d H wd d.1 - 1) + nI (flt d H wd x) + nI (plc d (x - 1) wd) * nI (d.2.1 wd) + nI (hsm d H (x - 1) d.1) = nI (fBz d H wd x) := by
    rw [pk_mul, nI_add, nI_add, nI_add]; rfl
  have hbd : fBz d H wd x ≤ 1700000 := by unfold fBz; omega
  rw [hX0_leastFrom 48]
  simp only [am_run_s, bt, lf, am_in, am_ar, am_fit, am_ld, am_ct, Nat.reduceLT, Nat.reduceEqDiff, reduceIte, Nat.reduceAdd, Nat.reduceLeDiff, Nat.reduceSub, Bool.false_eq_true, if_true, if_false, ite_true, ite_false, List.length_cons, List.length_nil, Nat.zero_add, Nat.add_zero, and_true, true_and, true_or, or_true, and_self, Nat.le_refl, Nat.lt_irrefl, gI_sI, gL_sL, gQ_sQ, gI_sJ, gI_sL, gI_sQ, gL_sI, gL_sQ, gL_sJ, gQ_sI, gQ_sL, gQ_sJ, gN_sI, gN_sL, gN_sQ, gN_sJ, E_b2_0, E_cV_a, E_cV_b, E_c_0, E_getI_0, E_inc_a, E_inc_b, E_je_0, E_jg_0, E_jmp_0, E_kk, E_ldI_a, E_ldI_b, E_ldR_a, E_ldR_b, E_rI_0, E_stI_0, am_cc, am_nl, am_ok, am_pop, am_rt, am_set, cC_0, cC_10, kX0_leastFrom, kX0_leastFrom_0, kX0_leastFrom_1, q0, hm, hgw, cC_10, ↓s_places hd ok hw (show x - 1 ≤ 30000 by omega)]
  refine c_higherIn hd ok hH hC (show x - 1 ≤ 30000 by omega) ?_
  simp only [am_run_s, bt, lf, am_in, am_ar, am_fit, am_ld, am_ct, Nat.reduceLT, Nat.reduceEqDiff, reduceIte, Nat.reduceAdd, Nat.reduceLeDiff, Nat.reduceSub, Bool.false_eq_true, if_true, if_false, ite_true, ite_false, List.length_cons, List.length_nil, Nat.zero_add, Nat.add_zero, and_true, true_and, true_or, or_true, and_self, Nat.le_refl, Nat.lt_irrefl, gI_sI, gL_sL, gQ_sQ, gI_sJ, gI_sL, gI_sQ, gL_sI, gL_sQ, gL_sJ, gQ_sI, gQ_sL, gQ_sJ, gN_sI, gN_sL, gN_sQ, gN_sJ, E_b2_0, E_cV_a, E_cV_b, E_c_0, E_getI_0, E_inc_a, E_inc_b, E_je_0, E_jg_0, E_jmp_0, E_kk, E_ldI_a, E_ldI_b, E_ldR_a, E_ldR_b, E_rI_0, E_stI_0, am_cc, am_nl, am_ok, am_pop, am_rt, am_set, cC_0, cC_10, kX0_leastFrom, kX0_leastFrom_0, kX0_leastFrom_1, hB, hgw, cC_10, ↓s_faultsIn hd ok hw hx2 hF, ↓costX hd hw, ev]
  by_cases q1 : fBz d H wd x = x
  · have e1 : (nI (fBz d H wd x) = nI x) = True := eq_true (by rw [q1])
    simp only [am_run_s, bt, lf, am_in, am_ar, am_fit, am_ld, am_ct, Nat.reduceLT, Nat.reduceEqDiff, reduceIte, Nat.reduceAdd, Nat.reduceLeDiff, Nat.reduceSub, Bool.false_eq_true, if_true, if_false, ite_true, ite_false, List.length_cons, List.length_nil, Nat.zero_add, Nat.add_zero, and_true, true_and, true_or, or_true, and_self, Nat.le_refl, Nat.lt_irrefl, gI_sI, gL_sL, gQ_sQ, gI_sJ, gI_sL, gI_sQ, gL_sI, gL_sQ, gL_sJ, gQ_sI, gQ_sL, gQ_sJ, gN_sI, gN_sL, gN_sQ, gN_sJ, E_b2_0, E_cV_a, E_cV_b, E_c_0, E_getI_0, E_inc_a, E_inc_b, E_je_0, E_jg_0, E_jmp_0, E_kk, E_ldI_a, E_ldI_b, E_ldR_a, E_ldR_b, E_rI_0, E_stI_0, am_cc, am_nl, am_ok, am_pop, am_rt, am_set, cC_0, cC_10, kX0_leastFrom, kX0_leastFrom_0, kX0_leastFrom_1, e1]
    exact h1 q1
  have e1 : (nI (fBz d H wd x) = nI x) = False := eq_false (fun z => q1 ((nI_eq (by omega) (by omega)).mp z))
  by_cases q2 : 30000 < fBz d H wd x
  · have e2 : 30000 < nI (fBz d H wd x) := by rw [n30]; exact nI_lt q2 (by omega)
    simp only [am_run_s, bt, lf, am_in, am_ar, am_fit, am_ld, am_ct, Nat.reduceLT, Nat.reduceEqDiff, reduceIte, Nat.reduceAdd, Nat.reduceLeDiff, Nat.reduceSub, Bool.false_eq_true, if_true, if_false, ite_true, ite_false, List.length_cons, List.length_nil, Nat.zero_add, Nat.add_zero, and_true, true_and, true_or, or_true, and_self, Nat.le_refl, Nat.lt_irrefl, gI_sI, gL_sL, gQ_sQ, gI_sJ, gI_sL, gI_sQ, gL_sI, gL_sQ, gL_sJ, gQ_sI, gQ_sL, gQ_sJ, gN_sI, gN_sL, gN_sQ, gN_sJ, E_b2_0, E_cV_a, E_cV_b, E_c_0, E_getI_0, E_inc_a, E_inc_b, E_je_0, E_jg_0, E_jmp_0, E_kk, E_ldI_a, E_ldI_b, E_ldR_a, E_ldR_b, E_rI_0, E_stI_0, am_cc, am_nl, am_ok, am_pop, am_rt, am_set, cC_0, cC_10, kX0_leastFrom, kX0_leastFrom_0, kX0_leastFrom_1, e1, e2]
    exact h2 q2
  · have e2 : ¬ 30000 < nI (fBz d H wd x) := by rw [n30]; exact nI_nlt (by omega) (by omega)
    simp only [am_run_s, bt, lf, am_in, am_ar, am_fit, am_ld, am_ct, Nat.reduceLT, Nat.reduceEqDiff, reduceIte, Nat.reduceAdd, Nat.reduceLeDiff, Nat.reduceSub, Bool.false_eq_true, if_true, if_false, ite_true, ite_false, List.length_cons, List.length_nil, Nat.zero_add, Nat.add_zero, and_true, true_and, true_or, or_true, and_self, Nat.le_refl, Nat.lt_irrefl, gI_sI, gL_sL, gQ_sQ, gI_sJ, gI_sL, gI_sQ, gL_sI, gL_sQ, gL_sJ, gQ_sI, gQ_sL, gQ_sJ, gN_sI, gN_sL, gN_sQ, gN_sJ, E_b2_0, E_cV_a, E_cV_b, E_c_0, E_getI_0, E_inc_a, E_inc_b, E_je_0, E_jg_0, E_jmp_0, E_kk, E_ldI_a, E_ldI_b, E_ldR_a, E_ldR_b, E_rI_0, E_stI_0, am_cc, am_nl, am_ok, am_pop, am_rt, am_set, cC_0, cC_10, kX0_leastFrom, kX0_leastFrom_0, kX0_leastFrom_1, e1, e2, nI_1]
    exact h3 q1 (by omega) _ _ _
/-- from a place on that nothing lies below of -/
theorem loop_B {d : DC} (ok : DOK d) {H : Nat → Bool} {wd : Nat} (hw : wd < d.1) {Q : PO} {σ : HS} (hl : LX σ d H wd) {st : Int32} (hQ : ∀ r, isL (fBz d H wd) 1 r → Q (some (.inl (onat r))) σ) :
    ∀ (n x i : Nat) (o6 o7 o8 : Option AV), 30000 ≤ x + n → 1 ≤ x → x ≤ 30000 → i ≤ x → x ≤ fBz d H wd x → (∀ w, 1 ≤ w → fBz d H wd w ≤ w → x ≤ w) → am_T (kX0_leastFrom S1) MM Q 6 [some (.inr (.inr (some (0, 0)))), some (.inl st), some (.inr (.inr (some (10, wd)))), some (.inl (-1)), some (.inl (nI x)), some (.inl (nI i)), o6, o7, o8] [] σ 0 0 := by
  intro n
  induction n with
  | zero =>
    intro x i o6 o7 o8 hn hx hx2 hi ha hl2
    refine least_B ok hw hl x i o6 o7 o8 hx hx2 hi (fun e => ?_) (fun e => ?_) (fun e1 e2 => ?_)
    · exact hQ (some x) ⟨e, hx2, hx, hl2⟩
    · refine hQ none (fun w h1 h2 h3 => ?_)
      have := fBz_mo d H wd x w (hl2 w h1 h3)
      omega
    · omega
  | succ n ih =>
    intro x i o6 o7 o8 hn hx hx2 hi ha hl2
    refine least_B ok hw hl x i o6 o7 o8 hx hx2 hi (fun e => ?_) (fun e => ?_) (fun e1 e2 o6 o7 o8 => ?_)
    · exact hQ (some x) ⟨e, hx2, hx, hl2⟩
    · refine hQ none (fun w h1 h2 h3 => ?_)
      have := fBz_mo d H wd x w (hl2 w h1 h3)
      omega
    · refine ih (fBz d H wd x) (i + 1) o6 o7 o8 (by omega) (by omega) e2 (by omega) (fBz_mo d H wd _ _ ha) (fun w h1 h3 => ?_)
      exact Nat.le_trans (fBz_mo d H wd x w (hl2 w h1 h3)) h3
theorem fBz_1 {d : DC} (ok : DOK d) (H : Nat → Bool) {wd : Nat} (hw : wd < d.1) (x : Nat) : 40 ≤ fBz d H wd x := by
  have h1 := ok.2.1 wd hw
  have h2 := ok.2.2.1 wd hw
  have h3 : 1 ≤ plc d (x - 1) wd := by
    unfold plc
    exact (Nat.one_le_div_iff (by omega)).mpr (by omega)
  have h4 : 1 * d.2.1 wd ≤ plc d (x - 1) wd * d.2.1 wd := Nat.mul_le_mul_right _ h3
  unfold fBz
  omega
theorem c_leastB {d : DC} (ok : DOK d) {H : Nat → Bool} {wd : Nat} (hw : wd < d.1) {Q : PO} {σ : HS} (hl : LX σ d H wd) (hQ : ∀ r, isL (fBz d H wd) 1 r → Q (some (.inl (onat r))) σ) : MM 6 [.inr (.inr (some (0, 0))), .inl 1, .inr (.inr (some (10, wd))), .inl (-1)] σ Q := by
  rw [eX0_leastFrom 6]
  simp only [am_run_s, bt, lf, am_in, am_ar, am_fit, am_ld, am_ct, Nat.reduceLT, Nat.reduceEqDiff, reduceIte, Nat.reduceAdd, Nat.reduceLeDiff, Nat.reduceSub, Bool.false_eq_true, if_true, if_false, ite_true, ite_false, List.length_cons, List.length_nil, Nat.zero_add, Nat.add_zero, and_true, true_and, true_or, or_true, and_self, Nat.le_refl, Nat.lt_irrefl, gI_sI, gL_sL, gQ_sQ, gI_sJ, gI_sL, gI_sQ, gL_sI, gL_sQ, gL_sJ, gQ_sI, gQ_sL, gQ_sJ, gN_sI, gN_sL, gN_sQ, gN_sJ, E_b2_0, E_cV_a, E_cV_b, E_c_0, E_getI_0, E_inc_a, E_inc_b, E_je_0, E_jg_0, E_jmp_0, E_kk, E_ldI_a, E_ldI_b, E_ldR_a, E_ldR_b, E_rI_0, E_stI_0, am_cc, am_nl, am_ok, am_pop, am_rt, am_set, cC_0, cC_10, kX0_leastFrom, kX0_leastFrom_0, kX0_leastFrom_1]
  have h40 := fBz_1 ok H hw 1
  exact loop_B ok hw hl hQ 30000 1 0 _ _ _ (by omega) (by omega) (by omega) (by omega) (by omega) (fun w h1 _ => h1)
theorem least_W {d : DC} (ok : DOK d) {H : Nat → Bool} {wd : Nat} (hw : wd < d.1) {Q : PO} {σ : HS} (hl : LX σ d H wd) {st : Int32} {q : Nat} (hq : q ≤ 400) (x i : Nat) (o6 o7 o8 : Option AV) (hx2 : x ≤ 30000) (hi : i ≤ x)
    (h1 : fWq d H wd q x = x → Q (some (.inl (nI x))) σ) (h2 : 30000 < fWq d H wd q x → Q (some (.inl (-1))) σ)
    (h3 : ¬ fWq d H wd q x = x → fWq d H wd q x ≤ 30000 → ∀ o6 o7 o8, am_T (kX0_leastFrom S1) MM Q 6 [some (.inr (.inr (some (0, 0)))), some (.inl st), some (.inr (.inr (some (10, wd)))), some (.inl (nI q)), some (.inl (nI (fWq d H wd q x))), some (.inl (nI (i + 1))), o6, o7, o8] [] σ 0 0) :
    am_T (kX0_leastFrom S1) MM Q 6 [some (.inr (.inr (some (0, 0)))), some (.inl st), some (.inr (.inr (some (10, wd)))), some (.inl (nI q)), some (.inl (nI x)), some (.inl (nI i)), o6, o7, o8] [] σ 0 0 := by
  obtain ⟨hd, hH, hB, hF, hC⟩ := hl
  have hgw : wd < gN σ 10 := by rw [hd.1]; exact hw
  have hm : ¬ nI q = -1 := nI_m1ne (by omega)
  have q0 : ¬ 30000 < nI i := by rw [n30]; exact nI_nlt (by omega) (by omega)
  have bb1 := bL_bd ok H wd d.1 (Nat.le_refl _)
  have bb2 := flt_bd ok H hx2 hw
  have bb4 := hsm_bd ok H hx2 (Nat.le_refl d.1)
  have bb5 : q * d.2.1 wd ≤ 400 * 200 := Nat.mul_le_mul hq (ok.2.1 wd hw).2
  have ev : nI (bL d H wd d.1 - 1) + nI (flt d H wd x) + nI q * nI (d.2.1 wd) + nI (hsm d H x d.1) = nI (fWq d H wd q x) := by
    rw [pk_mul, nI_add, nI_add, nI_add]; rfl
  have hbd : fWq d H wd q x ≤ 1700000 := by unfold fWq; omega
  rw [hX0_leastFrom 48]
  simp only [am_run_s, bt, lf, am_in, am_ar, am_fit, am_ld, am_ct, Nat.reduceLT, Nat.reduceEqDiff, reduceIte, Nat.reduceAdd, Nat.reduceLeDiff, Nat.reduceSub, Bool.false_eq_true, if_true, if_false, ite_true, ite_false, List.length_cons, List.length_nil, Nat.zero_add, Nat.add_zero, and_true, true_and, true_or, or_true, and_self, Nat.le_refl, Nat.lt_irrefl, gI_sI, gL_sL, gQ_sQ, gI_sJ, gI_sL, gI_sQ, gL_sI, gL_sQ, gL_sJ, gQ_sI, gQ_sL, gQ_sJ, gN_sI, gN_sL, gN_sQ, gN_sJ, E_b2_0, E_cV_a, E_cV_b, E_c_0, E_getI_0, E_inc_a, E_inc_b, E_je_0, E_jg_0, E_jmp_0, E_kk, E_ldI_a, E_ldI_b, E_ldR_a, E_ldR_b, E_rI_0, E_stI_0, am_cc, am_nl, am_ok, am_pop, am_rt, am_set, cC_0, cC_10, kX0_leastFrom, kX0_leastFrom_0, kX0_leastFrom_1, q0, hm]
  refine c_higherIn hd ok hH hC hx2 ?_
  simp only [am_run_s, bt, lf, am_in, am_ar, am_fit, am_ld, am_ct, Nat.reduceLT, Nat.reduceEqDiff, reduceIte, Nat.reduceAdd, Nat.reduceLeDiff, Nat.reduceSub, Bool.false_eq_true, if_true, if_false, ite_true, ite_false, List.length_cons, List.length_nil, Nat.zero_add, Nat.add_zero, and_true, true_and, true_or, or_true, and_self, Nat.le_refl, Nat.lt_irrefl, gI_sI, gL_sL, gQ_sQ, gI_sJ, gI_sL, gI_sQ, gL_sI, gL_sQ, gL_sJ, gQ_sI, gQ_sL, gQ_sJ, gN_sI, gN_sL, gN_sQ, gN_sJ, E_b2_0, E_cV_a, E_cV_b, E_c_0, E_getI_0, E_inc_a, E_inc_b, E_je_0, E_jg_0, E_jmp_0, E_kk, E_ldI_a, E_ldI_b, E_ldR_a, E_ldR_b, E_rI_0, E_stI_0, am_cc, am_nl, am_ok, am_pop, am_rt, am_set, cC_0, cC_10, kX0_leastFrom, kX0_leastFrom_0, kX0_leastFrom_1, hB, hgw, cC_10, ↓s_faultsIn hd ok hw hx2 hF, ↓costX hd hw, ev]
  by_cases q1 : fWq d H wd q x = x
  · have e1 : (nI (fWq d H wd q x) = nI x) = True := eq_true (by rw [q1])
    simp only [am_run_s, bt, lf, am_in, am_ar, am_fit, am_ld, am_ct, Nat.reduceLT, Nat.reduceEqDiff, reduceIte, Nat.reduceAdd, Nat.reduceLeDiff, Nat.reduceSub, Bool.false_eq_true, if_true, if_false, ite_true, ite_false, List.length_cons, List.length_nil, Nat.zero_add, Nat.add_zero, and_true, true_and, true_or, or_true, and_self, Nat.le_refl, Nat.lt_irrefl, gI_sI, gL_sL, gQ_sQ, gI_sJ, gI_sL, gI_sQ, gL_sI, gL_sQ, gL_sJ, gQ_sI, gQ_sL, gQ_sJ, gN_sI, gN_sL, gN_sQ, gN_sJ, E_b2_0, E_cV_a, E_cV_b, E_c_0, E_getI_0, E_inc_a, E_inc_b, E_je_0, E_jg_0, E_jmp_0, E_kk, E_ldI_a, E_ldI_b, E_ldR_a, E_ldR_b, E_rI_0, E_stI_0, am_cc, am_nl, am_ok, am_pop, am_rt, am_set, cC_0, cC_10, kX0_leastFrom, kX0_leastFrom_0, kX0_leastFrom_1, e1]
    exact h1 q1
  have e1 : (nI (fWq d H wd q x) = nI x) = False := eq_false (fun z => q1 ((nI_eq (by omega) (by omega)).mp z))
  by_cases q2 : 30000 < fWq d H wd q x
  · have e2 : 30000 < nI (fWq d H wd q x) := by rw [n30]; exact nI_lt q2 (by omega)
    simp only [am_run_s, bt, lf, am_in, am_ar, am_fit, am_ld, am_ct, Nat.reduceLT, Nat.reduceEqDiff, reduceIte, Nat.reduceAdd, Nat.reduceLeDiff, Nat.reduceSub, Bool.false_eq_true, if_true, if_false, ite_true, ite_false, List.length_cons, List.length_nil, Nat.zero_add, Nat.add_zero, and_true, true_and, true_or, or_true, and_self, Nat.le_refl, Nat.lt_irrefl, gI_sI, gL_sL, gQ_sQ, gI_sJ, gI_sL, gI_sQ, gL_sI, gL_sQ, gL_sJ, gQ_sI, gQ_sL, gQ_sJ, gN_sI, gN_sL, gN_sQ, gN_sJ, E_b2_0, E_cV_a, E_cV_b, E_c_0, E_getI_0, E_inc_a, E_inc_b, E_je_0, E_jg_0, E_jmp_0, E_kk, E_ldI_a, E_ldI_b, E_ldR_a, E_ldR_b, E_rI_0, E_stI_0, am_cc, am_nl, am_ok, am_pop, am_rt, am_set, cC_0, cC_10, kX0_leastFrom, kX0_leastFrom_0, kX0_leastFrom_1, e1, e2]
    exact h2 q2
  · have e2 : ¬ 30000 < nI (fWq d H wd q x) := by rw [n30]; exact nI_nlt (by omega) (by omega)
    simp only [am_run_s, bt, lf, am_in, am_ar, am_fit, am_ld, am_ct, Nat.reduceLT, Nat.reduceEqDiff, reduceIte, Nat.reduceAdd, Nat.reduceLeDiff, Nat.reduceSub, Bool.false_eq_true, if_true, if_false, ite_true, ite_false, List.length_cons, List.length_nil, Nat.zero_add, Nat.add_zero, and_true, true_and, true_or, or_true, and_self, Nat.le_refl, Nat.lt_irrefl, gI_sI, gL_sL, gQ_sQ, gI_sJ, gI_sL, gI_sQ, gL_sI, gL_sQ, gL_sJ, gQ_sI, gQ_sL, gQ_sJ, gN_sI, gN_sL, gN_sQ, gN_sJ, E_b2_0, E_cV_a, E_cV_b, E_c_0, E_getI_0, E_inc_a, E_inc_b, E_je_0, E_jg_0, E_jmp_0, E_kk, E_ldI_a, E_ldI_b, E_ldR_a, E_ldR_b, E_rI_0, E_stI_0, am_cc, am_nl, am_ok, am_pop, am_rt, am_set, cC_0, cC_10, kX0_leastFrom, kX0_leastFrom_0, kX0_leastFrom_1, e1, e2, nI_1]
    exact h3 q1 (by omega) _ _ _
theorem loop_W {d : DC} (ok : DOK d) {H : Nat → Bool} {wd : Nat} (hw : wd < d.1) {Q : PO} {σ : HS} (hl : LX σ d H wd) {st : Int32} {q : Nat} (hq : q ≤ 400) {a : Nat} (hQ : ∀ r, isL (fWq d H wd q) a r → Q (some (.inl (onat r))) σ) :
    ∀ (n x i : Nat) (o6 o7 o8 : Option AV), 30000 ≤ x + n → a ≤ x → x ≤ 30000 → i ≤ x → x ≤ fWq d H wd q x → (∀ w, a ≤ w → fWq d H wd q w ≤ w → x ≤ w) → am_T (kX0_leastFrom S1) MM Q 6 [some (.inr (.inr (some (0, 0)))), some (.inl st), some (.inr (.inr (some (10, wd)))), some (.inl (nI q)), some (.inl (nI x)), some (.inl (nI i)), o6, o7, o8] [] σ 0 0 := by
  intro n
  induction n with
  | zero =>
    intro x i o6 o7 o8 hn hx hx2 hi ha hl2
    refine least_W ok hw hl hq x i o6 o7 o8 hx2 hi (fun e => ?_) (fun e => ?_) (fun e1 e2 => ?_)
    · exact hQ (some x) ⟨e, hx2, hx, hl2⟩
    · refine hQ none (fun w h1 h2 h3 => ?_)
      have := fWq_mo d H wd q x w (hl2 w h1 h3)
      omega
    · omega
  | succ n ih =>
    intro x i o6 o7 o8 hn hx hx2 hi ha hl2
    refine least_W ok hw hl hq x i o6 o7 o8 hx2 hi (fun e => ?_) (fun e => ?_) (fun e1 e2 o6 o7 o8 => ?_)
    · exact hQ (some x) ⟨e, hx2, hx, hl2⟩
    · refine hQ none (fun w h1 h2 h3 => ?_)
      have := fWq_mo d H wd q x w (hl2 w h1 h3)
      omega
    · refine ih (fWq d H wd q x) (i + 1) o6 o7 o8 (by omega) (by omega) e2 (by omega) (fWq_mo d H wd q _ _ ha) (fun w h1 h3 => ?_)
      exact Nat.le_trans (fWq_mo d H wd q x w (hl2 w h1 h3)) h3
theorem c_leastW {d : DC} (ok : DOK d) {H : Nat → Bool} {wd : Nat} (hw : wd < d.1) {Q : PO} {σ : HS} (hl : LX σ d H wd) {q a : Nat} (hq : q ≤ 400) (ha : a ≤ 30000) (ha2 : a ≤ fWq d H wd q a) (hQ : ∀ r, isL (fWq d H wd q) a r → Q (some (.inl (onat r))) σ) : MM 6 [.inr (.inr (some (0, 0))), .inl (nI a), .inr (.inr (some (10, wd))), .inl (nI q)] σ Q := by
  rw [eX0_leastFrom 6]
  simp only [am_run_s, bt, lf, am_in, am_ar, am_fit, am_ld, am_ct, Nat.reduceLT, Nat.reduceEqDiff, reduceIte, Nat.reduceAdd, Nat.reduceLeDiff, Nat.reduceSub, Bool.false_eq_true, if_true, if_false, ite_true, ite_false, List.length_cons, List.length_nil, Nat.zero_add, Nat.add_zero, and_true, true_and, true_or, or_true, and_self, Nat.le_refl, Nat.lt_irrefl, gI_sI, gL_sL, gQ_sQ, gI_sJ, gI_sL, gI_sQ, gL_sI, gL_sQ, gL_sJ, gQ_sI, gQ_sL, gQ_sJ, gN_sI, gN_sL, gN_sQ, gN_sJ, E_b2_0, E_cV_a, E_cV_b, E_c_0, E_getI_0, E_inc_a, E_inc_b, E_je_0, E_jg_0, E_jmp_0, E_kk, E_ldI_a, E_ldI_b, E_ldR_a, E_ldR_b, E_rI_0, E_stI_0, am_cc, am_nl, am_ok, am_pop, am_rt, am_set, cC_0, cC_10, kX0_leastFrom, kX0_leastFrom_0, kX0_leastFrom_1]
  exact loop_W ok hw hl hq hQ 30000 a 0 _ _ _ (by omega) (by omega) ha (by omega) ha2 (fun w h1 _ => h1)
