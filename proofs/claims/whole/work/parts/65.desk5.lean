/-! ===== the desk: the reference ===== -/
def DM (σ : HS) (d : DC) : Prop := gI σ 1314 0 = nI d.1 ∧ (∀ k, k < d.1 → cI (gI σ 40 k) (gI σ 38 k) = nI (d.2.1 k) ∧ gI σ 41 k = nI (d.2.2.1 k) ∧ gI σ 43 k = nI (d.2.2.2.1 k)) ∧ gI σ 1359 0 = nI d.2.2.2.2
def HM (σ : HS) (H : Nat → Bool) (n : Nat) : Prop := ∀ k, k < n → gI σ 73 k = bb (H k)
theorem costM {σ : HS} {d : DC} (hd : DM σ d) (ok : DOK d) {k : Nat} (hk : k < d.1) (Q : PO) : MM 193 [.inr (.inr (some (12, 0))), .inl (nI k)] σ Q ↔ Q (some (.inl (nI (d.2.1 k)))) σ := by
  have := ok.1
  rw [s_mostOf k (by omega) σ Q, (hd.2.1 k hk).1]
theorem l_blockedM {σ : HS} {d : DC} (hd : DM σ d) (ok : DOK d) {H : Nat → Bool} (hH : HM σ H d.1) {wd : Nat} (hw : wd < d.1) {Q : PO} (hQ : Q (some (.inl (nI (bL d H wd d.1 - 1)))) σ) : ∀ (r i : Nat), i + r = d.1 → am_T (kX12_blocked S1) MM Q 4 [some (.inr (.inr (some (12, 0)))), some (.inl (nI wd)), some (.inl (nI (bL d H wd i - 1))), some (.inl (nI i))] [] σ 0 0 := by
  have h24 := ok.1
  intro r
  induction r with
  | zero =>
    intro i hi
    have e : i = d.1 := by omega
    subst e
    rw [hX12_blocked 6]
    have h0 : ¬ nI d.1 < nI d.1 := nI_nlt (by omega) (by omega)
    simp only [am_run_s, bt, lf, am_in, am_ar, am_fit, am_ld, am_ct, Nat.reduceLT, Nat.reduceEqDiff, reduceIte, Nat.reduceAdd, Nat.reduceLeDiff, Nat.reduceSub, Bool.false_eq_true, if_true, if_false, ite_true, ite_false, List.length_cons, List.length_nil, Nat.zero_add, Nat.add_zero, and_true, true_and, true_or, or_true, and_self, Nat.le_refl, Nat.lt_irrefl, gI_sI, gL_sL, gQ_sQ, gI_sJ, gI_sL, gI_sQ, gL_sI, gL_sQ, gL_sJ, gQ_sI, gQ_sL, gQ_sJ, gN_sI, gN_sL, gN_sQ, gN_sJ, E_b2_0, E_bald_0, E_cV_a, E_cV_b, E_c_0, E_getI_0, E_getR_0, E_inc_a, E_inc_b, E_je_0, E_jg_0, E_jl_0, E_jmp_0, E_jz_0, E_kk, E_ldI_a, E_ldI_b, E_ldR_a, E_ldR_b, E_rI_0, E_stI_0, aL_73, am_cc, am_nl, am_ok, am_pop, am_rt, am_set, cC_12, cC_73, rR_1358, kX12_blocked, hd.1, h0]
    exact hQ
  | succ r ih =>
    intro i hi
    have hk : i < d.1 := by omega
    have h2 := nI_t hk (by omega)
    have h3 : vp_in (nI i) 24 := vp_in_nI (by omega) (by omega)
    have h4 : (nI i).toNatClampNeg = i := nI_clamp (by omega)
    have hb := hH i hk
    have cc := ok.2.1 i hk
    have b1 := bL_bd ok H wd i (by omega)
    have := ih (i + 1) (by omega)
    rw [bL_s] at this
    have hm : nI (d.2.1 i) - 1 = nI (d.2.1 i - 1) := by rw [one', pk_sub (by omega)]
    rw [hX12_blocked 26]
    by_cases z : i = wd
    · have z' : (nI i = nI wd) = True := eq_true (by rw [z])
      have e2 : (if H i = true then bL d H wd i else if i = wd then bL d H wd i else if bL d H wd i < d.2.1 i then d.2.1 i else bL d H wd i) = bL d H wd i := by
        rw [if_pos z]; split <;> rfl
      rw [e2] at this
      simp only [am_run_s, bt, lf, am_in, am_ar, am_fit, am_ld, am_ct, Nat.reduceLT, Nat.reduceEqDiff, reduceIte, Nat.reduceAdd, Nat.reduceLeDiff, Nat.reduceSub, Bool.false_eq_true, if_true, if_false, ite_true, ite_false, List.length_cons, List.length_nil, Nat.zero_add, Nat.add_zero, and_true, true_and, true_or, or_true, and_self, Nat.le_refl, Nat.lt_irrefl, gI_sI, gL_sL, gQ_sQ, gI_sJ, gI_sL, gI_sQ, gL_sI, gL_sQ, gL_sJ, gQ_sI, gQ_sL, gQ_sJ, gN_sI, gN_sL, gN_sQ, gN_sJ, E_b2_0, E_bald_0, E_cV_a, E_cV_b, E_c_0, E_getI_0, E_getR_0, E_inc_a, E_inc_b, E_je_0, E_jg_0, E_jl_0, E_jmp_0, E_jz_0, E_kk, E_ldI_a, E_ldI_b, E_ldR_a, E_ldR_b, E_rI_0, E_stI_0, aL_73, am_cc, am_nl, am_ok, am_pop, am_rt, am_set, cC_12, cC_73, rR_1358, kX12_blocked, hd.1, h2, z', nI_1]
      exact this
    have z' : (nI i = nI wd) = False := eq_false (fun y => z ((nI_eq (by omega) (by omega)).mp y))
    cases e : H i with
    | true =>
      have e0 : (bb (H i) = 0) = False := by rw [bb_0, e]; simp
      rw [if_pos e] at this
      simp only [am_run_s, bt, lf, am_in, am_ar, am_fit, am_ld, am_ct, Nat.reduceLT, Nat.reduceEqDiff, reduceIte, Nat.reduceAdd, Nat.reduceLeDiff, Nat.reduceSub, Bool.false_eq_true, if_true, if_false, ite_true, ite_false, List.length_cons, List.length_nil, Nat.zero_add, Nat.add_zero, and_true, true_and, true_or, or_true, and_self, Nat.le_refl, Nat.lt_irrefl, gI_sI, gL_sL, gQ_sQ, gI_sJ, gI_sL, gI_sQ, gL_sI, gL_sQ, gL_sJ, gQ_sI, gQ_sL, gQ_sJ, gN_sI, gN_sL, gN_sQ, gN_sJ, E_b2_0, E_bald_0, E_cV_a, E_cV_b, E_c_0, E_getI_0, E_getR_0, E_inc_a, E_inc_b, E_je_0, E_jg_0, E_jl_0, E_jmp_0, E_jz_0, E_kk, E_ldI_a, E_ldI_b, E_ldR_a, E_ldR_b, E_rI_0, E_stI_0, aL_73, am_cc, am_nl, am_ok, am_pop, am_rt, am_set, cC_12, cC_73, rR_1358, kX12_blocked, hd.1, h2, h3, h4, z', hb, e0, nI_1]
      exact this
    | false =>
      have e0 : (bb (H i) = 0) = True := by rw [bb_0, e]; simp
      rw [if_neg (by rw [e]; decide), if_neg z] at this
      by_cases q : bL d H wd i < d.2.1 i
      · have q' := nI_t (show bL d H wd i - 1 < d.2.1 i - 1 by omega) (by omega)
        rw [if_pos q] at this
        simp only [am_run_s, bt, lf, am_in, am_ar, am_fit, am_ld, am_ct, Nat.reduceLT, Nat.reduceEqDiff, reduceIte, Nat.reduceAdd, Nat.reduceLeDiff, Nat.reduceSub, Bool.false_eq_true, if_true, if_false, ite_true, ite_false, List.length_cons, List.length_nil, Nat.zero_add, Nat.add_zero, and_true, true_and, true_or, or_true, and_self, Nat.le_refl, Nat.lt_irrefl, gI_sI, gL_sL, gQ_sQ, gI_sJ, gI_sL, gI_sQ, gL_sI, gL_sQ, gL_sJ, gQ_sI, gQ_sL, gQ_sJ, gN_sI, gN_sL, gN_sQ, gN_sJ, E_b2_0, E_bald_0, E_cV_a, E_cV_b, E_c_0, E_getI_0, E_getR_0, E_inc_a, E_inc_b, E_je_0, E_jg_0, E_jl_0, E_jmp_0, E_jz_0, E_kk, E_ldI_a, E_ldI_b, E_ldR_a, E_ldR_b, E_rI_0, E_stI_0, aL_73, am_cc, am_nl, am_ok, am_pop, am_rt, am_set, cC_12, cC_73, rR_1358, kX12_blocked, hd.1, h2, h3, h4, z', hb, e0, ↓costM hd ok hk, hm, q', nI_1]
        exact this
      · have q' : ¬ nI (bL d H wd i - 1) < nI (d.2.1 i - 1) := nI_nlt (by omega) (by omega)
        rw [if_neg q] at this
        simp only [am_run_s, bt, lf, am_in, am_ar, am_fit, am_ld, am_ct, Nat.reduceLT, Nat.reduceEqDiff, reduceIte, Nat.reduceAdd, Nat.reduceLeDiff, Nat.reduceSub, Bool.false_eq_true, if_true, if_false, ite_true, ite_false, List.length_cons, List.length_nil, Nat.zero_add, Nat.add_zero, and_true, true_and, true_or, or_true, and_self, Nat.le_refl, Nat.lt_irrefl, gI_sI, gL_sL, gQ_sQ, gI_sJ, gI_sL, gI_sQ, gL_sI, gL_sQ, gL_sJ, gQ_sI, gQ_sL, gQ_sJ, gN_sI, gN_sL, gN_sQ, gN_sJ, E_b2_0, E_bald_0, E_cV_a, E_cV_b, E_c_0, E_getI_0, E_getR_0, E_inc_a, E_inc_b, E_je_0, E_jg_0, E_jl_0, E_jmp_0, E_jz_0, E_kk, E_ldI_a, E_ldI_b, E_ldR_a, E_ldR_b, E_rI_0, E_stI_0, aL_73, am_cc, am_nl, am_ok, am_pop, am_rt, am_set, cC_12, cC_73, rR_1358, kX12_blocked, hd.1, h2, h3, h4, z', hb, e0, ↓costM hd ok hk, hm, q', nI_1]
        exact this
theorem c_blockedM {σ : HS} {d : DC} (hd : DM σ d) (ok : DOK d) {H : Nat → Bool} (hH : HM σ H d.1) {wd : Nat} (hw : wd < d.1) {Q : PO} (hQ : Q (some (.inl (nI (bL d H wd d.1 - 1)))) σ) : MM 195 [.inr (.inr (some (12, 0))), .inl (nI wd)] σ Q := by
  rw [eX12_blocked 6]
  simp only [am_run_s, bt, lf, am_in, am_ar, am_fit, am_ld, am_ct, Nat.reduceLT, Nat.reduceEqDiff, reduceIte, Nat.reduceAdd, Nat.reduceLeDiff, Nat.reduceSub, Bool.false_eq_true, if_true, if_false, ite_true, ite_false, List.length_cons, List.length_nil, Nat.zero_add, Nat.add_zero, and_true, true_and, true_or, or_true, and_self, Nat.le_refl, Nat.lt_irrefl, gI_sI, gL_sL, gQ_sQ, gI_sJ, gI_sL, gI_sQ, gL_sI, gL_sQ, gL_sJ, gQ_sI, gQ_sL, gQ_sJ, gN_sI, gN_sL, gN_sQ, gN_sJ, E_b2_0, E_bald_0, E_cV_a, E_cV_b, E_c_0, E_getI_0, E_getR_0, E_inc_a, E_inc_b, E_je_0, E_jg_0, E_jl_0, E_jmp_0, E_jz_0, E_kk, E_ldI_a, E_ldI_b, E_ldR_a, E_ldR_b, E_rI_0, E_stI_0, aL_73, am_cc, am_nl, am_ok, am_pop, am_rt, am_set, cC_12, cC_73, rR_1358, kX12_blocked]
  exact l_blockedM hd ok hH hw hQ d.1 0 (by omega)
theorem l_faulty {σ : HS} {d : DC} (hd : DM σ d) (ok : DOK d) {H : Nat → Bool} (hH : HM σ H d.1) {wd t : Nat} (hw : wd < d.1) (ht : t ≤ 30000) (hE : ¬ d.2.2.2.2 = 0) {Q : PO} (hQ : Q (some (.inr (.inl (lN (flt d H wd t))))) σ) : ∀ (r i : Nat), i + r = d.1 → am_T (kX12_faulty S1) MM Q 19 [some (.inr (.inr (some (12, 0)))), some (.inr (.inl (lN t))), none, some (.inl (nI wd)), some (.inl (nI (bG d H wd i))), some (.inl (nI i))] [] σ 0 0 := by
  have h24 := ok.1
  have he2 := ok.2.2.2.2.2
  intro r
  induction r with
  | zero =>
    intro i hi
    have e : i = d.1 := by omega
    subst e
    have b2 := bG_bd ok H hw d.1 (Nat.le_refl _)
    rw [hX12_faulty 22]
    have h0 : ¬ nI d.1 < nI d.1 := nI_nlt (by omega) (by omega)
    have l1 : (nI d.2.2.2.2).toInt64 = lN d.2.2.2.2 := nI_l (by omega)
    have l2 : (nI (bG d H wd d.1)).toInt64 = lN (bG d H wd d.1) := nI_l (by omega)
    have l3 : ¬ lN d.2.2.2.2 = 0 := by
      rw [show (0 : Int64) = lN 0 by decide]
      exact fun z => hE ((pk_lEQ (by omega) (by omega)).mp z)
    have l4 : (lN t + lN d.2.2.2.2) / lN d.2.2.2.2 * (18 + lN (bG d H wd d.1)) = lN (flt d H wd t) := by
      rw [show (18 : Int64) = lN 18 by decide, lN_add, lN_add, pk_lDiv (by omega) (by omega) (by omega), lN_mul]
      unfold flt; rw [if_neg hE]
    simp only [am_run_s, bt, lf, am_in, am_ar, am_fit, am_ld, am_ct, Nat.reduceLT, Nat.reduceEqDiff, reduceIte, Nat.reduceAdd, Nat.reduceLeDiff, Nat.reduceSub, Bool.false_eq_true, if_true, if_false, ite_true, ite_false, List.length_cons, List.length_nil, Nat.zero_add, Nat.add_zero, and_true, true_and, true_or, or_true, and_self, Nat.le_refl, Nat.lt_irrefl, gI_sI, gL_sL, gQ_sQ, gI_sJ, gI_sL, gI_sQ, gL_sI, gL_sQ, gL_sJ, gQ_sI, gQ_sL, gQ_sJ, gN_sI, gN_sL, gN_sQ, gN_sJ, E_bald_0, E_cV_a, E_cV_b, E_c_0, E_getI_0, E_getR_0, E_i2l_0, E_inc_a, E_inc_b, E_jg_0, E_jl_0, E_jmp_0, E_jz_0, E_kk, E_l2_0, E_l2n_0, E_ldI_a, E_ldI_b, E_ldL_a, E_ldL_b, E_ldR_a, E_ldR_b, E_rL_0, E_stI_0, aL_73, am_cc, am_nl, am_ok, am_pop, am_rt, am_set, cC_12, cC_73, rR_1358, kX12_faulty, hd.1, h0, hd.2.2, l1, l2, l3, l4, not_false_eq_true]
    exact hQ
  | succ r ih =>
    intro i hi
    have hk : i < d.1 := by omega
    have h2 := nI_t hk (by omega)
    have h3 : vp_in (nI i) 24 := vp_in_nI (by omega) (by omega)
    have h4 : (nI i).toNatClampNeg = i := nI_clamp (by omega)
    have hb := hH i hk
    have cc := ok.2.1 i hk
    have b2 := bG_bd ok H hw i (by omega)
    have := ih (i + 1) (by omega)
    rw [bG_s] at this
    rw [hX12_faulty 20]
    cases e : H i with
    | false =>
      have e0 : (bb (H i) = 0) = True := by rw [bb_0, e]; simp
      rw [if_neg (by rw [e]; decide)] at this
      simp only [am_run_s, bt, lf, am_in, am_ar, am_fit, am_ld, am_ct, Nat.reduceLT, Nat.reduceEqDiff, reduceIte, Nat.reduceAdd, Nat.reduceLeDiff, Nat.reduceSub, Bool.false_eq_true, if_true, if_false, ite_true, ite_false, List.length_cons, List.length_nil, Nat.zero_add, Nat.add_zero, and_true, true_and, true_or, or_true, and_self, Nat.le_refl, Nat.lt_irrefl, gI_sI, gL_sL, gQ_sQ, gI_sJ, gI_sL, gI_sQ, gL_sI, gL_sQ, gL_sJ, gQ_sI, gQ_sL, gQ_sJ, gN_sI, gN_sL, gN_sQ, gN_sJ, E_bald_0, E_cV_a, E_cV_b, E_c_0, E_getI_0, E_getR_0, E_i2l_0, E_inc_a, E_inc_b, E_jg_0, E_jl_0, E_jmp_0, E_jz_0, E_kk, E_l2_0, E_l2n_0, E_ldI_a, E_ldI_b, E_ldL_a, E_ldL_b, E_ldR_a, E_ldR_b, E_rL_0, E_stI_0, aL_73, am_cc, am_nl, am_ok, am_pop, am_rt, am_set, cC_12, cC_73, rR_1358, kX12_faulty, hd.1, h2, h3, h4, hb, e0, nI_1]
      exact this
    | true =>
      have e0 : (bb (H i) = 0) = False := by rw [bb_0, e]; simp
      rw [if_pos e] at this
      by_cases q : bG d H wd i < d.2.1 i
      · have q' := nI_t q (by omega)
        rw [if_pos q] at this
        simp only [am_run_s, bt, lf, am_in, am_ar, am_fit, am_ld, am_ct, Nat.reduceLT, Nat.reduceEqDiff, reduceIte, Nat.reduceAdd, Nat.reduceLeDiff, Nat.reduceSub, Bool.false_eq_true, if_true, if_false, ite_true, ite_false, List.length_cons, List.length_nil, Nat.zero_add, Nat.add_zero, and_true, true_and, true_or, or_true, and_self, Nat.le_refl, Nat.lt_irrefl, gI_sI, gL_sL, gQ_sQ, gI_sJ, gI_sL, gI_sQ, gL_sI, gL_sQ, gL_sJ, gQ_sI, gQ_sL, gQ_sJ, gN_sI, gN_sL, gN_sQ, gN_sJ, E_bald_0, E_cV_a, E_cV_b, E_c_0, E_getI_0, E_getR_0, E_i2l_0, E_inc_a, E_inc_b, E_jg_0, E_jl_0, E_jmp_0, E_jz_0, E_kk, E_l2_0, E_l2n_0, E_ldI_a, E_ldI_b, E_ldL_a, E_ldL_b, E_ldR_a, E_ldR_b, E_rL_0, E_stI_0, aL_73, am_cc, am_nl, am_ok, am_pop, am_rt, am_set, cC_12, cC_73, rR_1358, kX12_faulty, hd.1, h2, h3, h4, hb, e0, ↓costM hd ok hk, q', nI_1]
        exact this
      · have q' : ¬ nI (bG d H wd i) < nI (d.2.1 i) := nI_nlt (by omega) (by omega)
        rw [if_neg q] at this
        simp only [am_run_s, bt, lf, am_in, am_ar, am_fit, am_ld, am_ct, Nat.reduceLT, Nat.reduceEqDiff, reduceIte, Nat.reduceAdd, Nat.reduceLeDiff, Nat.reduceSub, Bool.false_eq_true, if_true, if_false, ite_true, ite_false, List.length_cons, List.length_nil, Nat.zero_add, Nat.add_zero, and_true, true_and, true_or, or_true, and_self, Nat.le_refl, Nat.lt_irrefl, gI_sI, gL_sL, gQ_sQ, gI_sJ, gI_sL, gI_sQ, gL_sI, gL_sQ, gL_sJ, gQ_sI, gQ_sL, gQ_sJ, gN_sI, gN_sL, gN_sQ, gN_sJ, E_bald_0, E_cV_a, E_cV_b, E_c_0, E_getI_0, E_getR_0, E_i2l_0, E_inc_a, E_inc_b, E_jg_0, E_jl_0, E_jmp_0, E_jz_0, E_kk, E_l2_0, E_l2n_0, E_ldI_a, E_ldI_b, E_ldL_a, E_ldL_b, E_ldR_a, E_ldR_b, E_rL_0, E_stI_0, aL_73, am_cc, am_nl, am_ok, am_pop, am_rt, am_set, cC_12, cC_73, rR_1358, kX12_faulty, hd.1, h2, h3, h4, hb, e0, ↓costM hd ok hk, q', nI_1]
        exact this
theorem c_faulty {σ : HS} {d : DC} (hd : DM σ d) (ok : DOK d) {H : Nat → Bool} (hH : HM σ H d.1) {wd t : Nat} (hw : wd < d.1) (ht : t ≤ 30000) {Q : PO} (hQ : Q (some (.inr (.inl (lN (flt d H wd t))))) σ) : MM 196 [.inr (.inr (some (12, 0))), .inr (.inl (lN t)), .inl (nI wd)] σ Q := by
  rw [eX12_faulty 9]
  by_cases q : d.2.2.2.2 = 0
  · have h1 : nI d.2.2.2.2 = 0 := by rw [q]; decide
    have h2 : lN (flt d H wd t) = 0 := by unfold flt; rw [if_pos q]; decide
    rw [h2] at hQ
    simp only [am_run_s, bt, lf, am_in, am_ar, am_fit, am_ld, am_ct, Nat.reduceLT, Nat.reduceEqDiff, reduceIte, Nat.reduceAdd, Nat.reduceLeDiff, Nat.reduceSub, Bool.false_eq_true, if_true, if_false, ite_true, ite_false, List.length_cons, List.length_nil, Nat.zero_add, Nat.add_zero, and_true, true_and, true_or, or_true, and_self, Nat.le_refl, Nat.lt_irrefl, gI_sI, gL_sL, gQ_sQ, gI_sJ, gI_sL, gI_sQ, gL_sI, gL_sQ, gL_sJ, gQ_sI, gQ_sL, gQ_sJ, gN_sI, gN_sL, gN_sQ, gN_sJ, E_bald_0, E_cV_a, E_cV_b, E_c_0, E_getI_0, E_getR_0, E_i2l_0, E_inc_a, E_inc_b, E_jg_0, E_jl_0, E_jmp_0, E_jz_0, E_kk, E_l2_0, E_l2n_0, E_ldI_a, E_ldI_b, E_ldL_a, E_ldL_b, E_ldR_a, E_ldR_b, E_rL_0, E_stI_0, aL_73, am_cc, am_nl, am_ok, am_pop, am_rt, am_set, cC_12, cC_73, rR_1358, kX12_faulty, hd.2.2, h1]
    exact hQ
  · have he2 := ok.2.2.2.2.2
    have h1 : ¬ nI d.2.2.2.2 = 0 := nI_ne0 (by omega) (by omega)
    simp only [am_run_s, bt, lf, am_in, am_ar, am_fit, am_ld, am_ct, Nat.reduceLT, Nat.reduceEqDiff, reduceIte, Nat.reduceAdd, Nat.reduceLeDiff, Nat.reduceSub, Bool.false_eq_true, if_true, if_false, ite_true, ite_false, List.length_cons, List.length_nil, Nat.zero_add, Nat.add_zero, and_true, true_and, true_or, or_true, and_self, Nat.le_refl, Nat.lt_irrefl, gI_sI, gL_sL, gQ_sQ, gI_sJ, gI_sL, gI_sQ, gL_sI, gL_sQ, gL_sJ, gQ_sI, gQ_sL, gQ_sJ, gN_sI, gN_sL, gN_sQ, gN_sJ, E_bald_0, E_cV_a, E_cV_b, E_c_0, E_getI_0, E_getR_0, E_i2l_0, E_inc_a, E_inc_b, E_jg_0, E_jl_0, E_jmp_0, E_jz_0, E_kk, E_l2_0, E_l2n_0, E_ldI_a, E_ldI_b, E_ldL_a, E_ldL_b, E_ldR_a, E_ldR_b, E_rL_0, E_stI_0, aL_73, am_cc, am_nl, am_ok, am_pop, am_rt, am_set, cC_12, cC_73, rR_1358, kX12_faulty, hd.2.2, h1, ↓costM hd ok hw]
    exact l_faulty hd ok hH hw ht q hQ d.1 0 (by omega)
