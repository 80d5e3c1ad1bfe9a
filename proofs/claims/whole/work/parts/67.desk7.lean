/-! ===== the desk: the reference's W(q) ===== -/
theorem l_waitI {σ : HS} {d : DC} (hd : DM σ d) (ok : DOK d) {H : Nat → Bool} (hH : HM σ H d.1) {t s B : Nat} {w q : Int32} (ht2 : t ≤ 30000) {Q : PO} (hX : am_T (kX12_waitOf S1) MM Q 100 [some (.inr (.inr (some (12, 0)))), some (.inl w), some (.inl q), some (.inr (.inl (lN t))), none, some (.inl (nI B)), some (.inr (.inl (lN (s + hsm d H t d.1)))), none, some (.inl (nI d.1))] [] σ 0 0) :
    ∀ (r i : Nat), i + r = d.1 → am_T (kX12_waitOf S1) MM Q 34 [some (.inr (.inr (some (12, 0)))), some (.inl w), some (.inl q), some (.inr (.inl (lN t))), none, some (.inl (nI B)), some (.inr (.inl (lN (s + hsm d H t i)))), none, some (.inl (nI i))] [] σ 0 0 := by
  have h24 := ok.1
  intro r
  induction r with
  | zero =>
    intro i hi
    have e : i = d.1 := by omega
    subst e
    rw [hX12_waitOf 3]
    have h0 : ¬ nI d.1 < nI d.1 := nI_nlt (by omega) (by omega)
    simp only [am_run_s, bt, lf, am_in, am_ar, am_fit, am_ld, am_ct, Nat.reduceLT, Nat.reduceEqDiff, reduceIte, Nat.reduceAdd, Nat.reduceLeDiff, Nat.reduceSub, Bool.false_eq_true, if_true, if_false, ite_true, ite_false, List.length_cons, List.length_nil, Nat.zero_add, Nat.add_zero, and_true, true_and, true_or, or_true, and_self, Nat.le_refl, Nat.lt_irrefl, gI_sI, gL_sL, gQ_sQ, gI_sJ, gI_sL, gI_sQ, gL_sI, gL_sQ, gL_sJ, gQ_sI, gQ_sL, gQ_sJ, gN_sI, gN_sL, gN_sQ, gN_sJ, E_bald_0, E_cV_a, E_cV_b, E_c_0, E_getI_0, E_getR_0, E_i2l_0, E_iald_0, E_inc_a, E_inc_b, E_jl_0, E_jmp_0, E_jp_0, E_jz_0, E_kk, E_l2_0, E_l2i_0, E_l2n_0, E_lcmp_0, E_ldI_a, E_ldI_b, E_ldL_a, E_ldL_b, E_ldR_a, E_ldR_b, E_rI_0, E_stI_0, E_stL_0, aL_41, aL_43, aL_73, am_cc, am_nl, am_ok, am_pop, am_rt, am_set, cC_12, cC_41, cC_43, cC_73, rR_1308, rR_1310, rR_1358, kX12_waitOf, kX12_waitOf_0, kX12_waitOf_1, am_run_z, hd.1, h0]
    exact hX
  | succ r ih =>
    intro i hi
    have hk : i < d.1 := by omega
    have h2 := nI_t hk (by omega)
    have h3 : vp_in (nI i) 24 := vp_in_nI (by omega) (by omega)
    have h4 : (nI i).toNatClampNeg = i := nI_clamp (by omega)
    have hb := hH i hk
    have cc := ok.2.1 i hk
    have tt := ok.2.2.1 i hk
    have jj := ok.2.2.2.1 i hk
    obtain ⟨-, m2, m3⟩ := hd.2.1 i hk
    have := ih (i + 1) (by omega)
    unfold hsm at this
    rw [dsum_s] at this
    have l1 : (nI (d.2.2.1 i)).toInt64 = lN (d.2.2.1 i) := nI_l (by omega)
    have l2 : (nI (d.2.2.2.1 i)).toInt64 = lN (d.2.2.2.1 i) := nI_l (by omega)
    have l3 : (nI (d.2.1 i)).toInt64 = lN (d.2.1 i) := nI_l (by omega)
    have l4 : ¬ lN (d.2.2.1 i) = 0 := by
      rw [show (0 : Int64) = lN 0 by decide]
      exact fun z => absurd ((pk_lEQ (by omega) (by omega)).mp z) (by omega)
    have l5 : ∀ x : Nat, lN x + (lN t + lN (d.2.2.2.1 i) + lN (d.2.2.1 i)) / lN (d.2.2.1 i) * lN (d.2.1 i) = lN (x + plc d t i * d.2.1 i) := by
      intro x
      rw [lN_add, lN_add, pk_lDiv (by omega) (by omega) (by omega), lN_mul, lN_add]
      rfl
    rw [hX12_waitOf 38]
    cases e : H i with
    | true =>
      have e0 : (bb (H i) = 0) = False := by rw [bb_0, e]; simp
      rw [if_pos e, ← Nat.add_assoc] at this
      simp only [am_run_s, bt, lf, am_in, am_ar, am_fit, am_ld, am_ct, Nat.reduceLT, Nat.reduceEqDiff, reduceIte, Nat.reduceAdd, Nat.reduceLeDiff, Nat.reduceSub, Bool.false_eq_true, if_true, if_false, ite_true, ite_false, List.length_cons, List.length_nil, Nat.zero_add, Nat.add_zero, and_true, true_and, true_or, or_true, and_self, Nat.le_refl, Nat.lt_irrefl, gI_sI, gL_sL, gQ_sQ, gI_sJ, gI_sL, gI_sQ, gL_sI, gL_sQ, gL_sJ, gQ_sI, gQ_sL, gQ_sJ, gN_sI, gN_sL, gN_sQ, gN_sJ, E_bald_0, E_cV_a, E_cV_b, E_c_0, E_getI_0, E_getR_0, E_i2l_0, E_iald_0, E_inc_a, E_inc_b, E_jl_0, E_jmp_0, E_jp_0, E_jz_0, E_kk, E_l2_0, E_l2i_0, E_l2n_0, E_lcmp_0, E_ldI_a, E_ldI_b, E_ldL_a, E_ldL_b, E_ldR_a, E_ldR_b, E_rI_0, E_stI_0, E_stL_0, aL_41, aL_43, aL_73, am_cc, am_nl, am_ok, am_pop, am_rt, am_set, cC_12, cC_41, cC_43, cC_73, rR_1308, rR_1310, rR_1358, kX12_waitOf, kX12_waitOf_0, kX12_waitOf_1, hd.1, h2, h3, h4, hb, e0, m2, m3, l1, l2, l4, ↓costM hd ok hk, l3, l5, not_false_eq_true, nI_1]
      exact this
    | false =>
      have e0 : (bb (H i) = 0) = True := by rw [bb_0, e]; simp
      rw [if_neg (by rw [e]; decide), Nat.add_zero] at this
      simp only [am_run_s, bt, lf, am_in, am_ar, am_fit, am_ld, am_ct, Nat.reduceLT, Nat.reduceEqDiff, reduceIte, Nat.reduceAdd, Nat.reduceLeDiff, Nat.reduceSub, Bool.false_eq_true, if_true, if_false, ite_true, ite_false, List.length_cons, List.length_nil, Nat.zero_add, Nat.add_zero, and_true, true_and, true_or, or_true, and_self, Nat.le_refl, Nat.lt_irrefl, gI_sI, gL_sL, gQ_sQ, gI_sJ, gI_sL, gI_sQ, gL_sI, gL_sQ, gL_sJ, gQ_sI, gQ_sL, gQ_sJ, gN_sI, gN_sL, gN_sQ, gN_sJ, E_bald_0, E_cV_a, E_cV_b, E_c_0, E_getI_0, E_getR_0, E_i2l_0, E_iald_0, E_inc_a, E_inc_b, E_jl_0, E_jmp_0, E_jp_0, E_jz_0, E_kk, E_l2_0, E_l2i_0, E_l2n_0, E_lcmp_0, E_ldI_a, E_ldI_b, E_ldL_a, E_ldL_b, E_ldR_a, E_ldR_b, E_rI_0, E_stI_0, E_stL_0, aL_41, aL_43, aL_73, am_cc, am_nl, am_ok, am_pop, am_rt, am_set, cC_12, cC_41, cC_43, cC_73, rR_1308, rR_1310, rR_1358, kX12_waitOf, kX12_waitOf_0, kX12_waitOf_1, hd.1, h2, h3, h4, hb, e0, nI_1]
      exact this
theorem wait_step {σ : HS} {d : DC} (hd : DM σ d) (ok : DOK d) {H : Nat → Bool} (hH : HM σ H d.1) {wd : Nat} (hw : wd < d.1) {Q : PO} {q : Nat} (hq : q ≤ 400) (x : Nat) (o6 o8 : Option AV) (hx2 : x ≤ 30000)
    (h1 : fWq d H wd q x = x → Q (some (.inl (nI x))) σ) (h2 : 30000 < fWq d H wd q x → Q (some (.inl (-1))) σ)
    (h3 : ¬ fWq d H wd q x = x → fWq d H wd q x ≤ 30000 → ∀ o6 o8, am_T (kX12_waitOf S1) MM Q 9 [some (.inr (.inr (some (12, 0)))), some (.inl (nI wd)), some (.inl (nI q)), some (.inr (.inl (lN (fWq d H wd q x)))), none, some (.inl (nI (bL d H wd d.1 - 1))), o6, none, o8] [] σ 0 0) :
    am_T (kX12_waitOf S1) MM Q 9 [some (.inr (.inr (some (12, 0)))), some (.inl (nI wd)), some (.inl (nI q)), some (.inr (.inl (lN x))), none, some (.inl (nI (bL d H wd d.1 - 1))), o6, none, o8] [] σ 0 0 := by
  have bb1 := bL_bd ok H wd d.1 (Nat.le_refl _)
  have bb2 := flt_bd ok H hx2 hw
  have bb4 := hsm_bd ok H hx2 (Nat.le_refl d.1)
  have cc := ok.2.1 wd hw
  have bb5 : q * d.2.1 wd ≤ 400 * 200 := Nat.mul_le_mul hq cc.2
  have ef : bL d H wd d.1 - 1 + flt d H wd x + q * d.2.1 wd + hsm d H x d.1 = fWq d H wd q x := rfl
  have lb : (nI (bL d H wd d.1 - 1)).toInt64 = lN (bL d H wd d.1 - 1) := nI_l (by omega)
  have lq : (nI q).toInt64 = lN q := nI_l (by omega)
  have lc : (nI (d.2.1 wd)).toInt64 = lN (d.2.1 wd) := nI_l (by omega)
  have hbd : fWq d H wd q x ≤ 1700000 := by omega
  rw [hX12_waitOf 18]
  simp only [am_run_s, bt, lf, am_in, am_ar, am_fit, am_ld, am_ct, Nat.reduceLT, Nat.reduceEqDiff, reduceIte, Nat.reduceAdd, Nat.reduceLeDiff, Nat.reduceSub, Bool.false_eq_true, if_true, if_false, ite_true, ite_false, List.length_cons, List.length_nil, Nat.zero_add, Nat.add_zero, and_true, true_and, true_or, or_true, and_self, Nat.le_refl, Nat.lt_irrefl, gI_sI, gL_sL, gQ_sQ, gI_sJ, gI_sL, gI_sQ, gL_sI, gL_sQ, gL_sJ, gQ_sI, gQ_sL, gQ_sJ, gN_sI, gN_sL, gN_sQ, gN_sJ, E_bald_0, E_cV_a, E_cV_b, E_c_0, E_getI_0, E_getR_0, E_i2l_0, E_iald_0, E_inc_a, E_inc_b, E_jl_0, E_jmp_0, E_jp_0, E_jz_0, E_kk, E_l2_0, E_l2i_0, E_l2n_0, E_lcmp_0, E_ldI_a, E_ldI_b, E_ldL_a, E_ldL_b, E_ldR_a, E_ldR_b, E_rI_0, E_stI_0, E_stL_0, aL_41, aL_43, aL_73, am_cc, am_nl, am_ok, am_pop, am_rt, am_set, cC_12, cC_41, cC_43, cC_73, rR_1308, rR_1310, rR_1358, kX12_waitOf, kX12_waitOf_0, kX12_waitOf_1]
  refine c_faulty hd ok hH hw hx2 ?_
  simp only [am_run_s, bt, lf, am_in, am_ar, am_fit, am_ld, am_ct, Nat.reduceLT, Nat.reduceEqDiff, reduceIte, Nat.reduceAdd, Nat.reduceLeDiff, Nat.reduceSub, Bool.false_eq_true, if_true, if_false, ite_true, ite_false, List.length_cons, List.length_nil, Nat.zero_add, Nat.add_zero, and_true, true_and, true_or, or_true, and_self, Nat.le_refl, Nat.lt_irrefl, gI_sI, gL_sL, gQ_sQ, gI_sJ, gI_sL, gI_sQ, gL_sI, gL_sQ, gL_sJ, gQ_sI, gQ_sL, gQ_sJ, gN_sI, gN_sL, gN_sQ, gN_sJ, E_bald_0, E_cV_a, E_cV_b, E_c_0, E_getI_0, E_getR_0, E_i2l_0, E_iald_0, E_inc_a, E_inc_b, E_jl_0, E_jmp_0, E_jp_0, E_jz_0, E_kk, E_l2_0, E_l2i_0, E_l2n_0, E_lcmp_0, E_ldI_a, E_ldI_b, E_ldL_a, E_ldL_b, E_ldR_a, E_ldR_b, E_rI_0, E_stI_0, E_stL_0, aL_41, aL_43, aL_73, am_cc, am_nl, am_ok, am_pop, am_rt, am_set, cC_12, cC_41, cC_43, cC_73, rR_1308, rR_1310, rR_1358, kX12_waitOf, kX12_waitOf_0, kX12_waitOf_1, lb, lq, ↓costM hd ok hw, lc, lN_mul, lN_add]
  refine l_waitI (s := bL d H wd d.1 - 1 + flt d H wd x + q * d.2.1 wd) hd ok hH hx2 ?_ d.1 0 (by omega)
  rw [ef]
  have ez : (lN (fWq d H wd q x) = lN x) = (fWq d H wd q x = x) := propext (pk_lEQ (by omega) (by omega))
  have eg : ((30000 : Int64) < lN (fWq d H wd q x)) = (30000 < fWq d H wd q x) := by
    rw [show (30000 : Int64) = lN 30000 by decide]
    exact propext (pk_lLT (by omega) (by omega))
  by_cases q1 : fWq d H wd q x = x
  · rw [hX12_waitOf 6]
    simp only [am_run_s, bt, lf, am_in, am_ar, am_fit, am_ld, am_ct, Nat.reduceLT, Nat.reduceEqDiff, reduceIte, Nat.reduceAdd, Nat.reduceLeDiff, Nat.reduceSub, Bool.false_eq_true, if_true, if_false, ite_true, ite_false, List.length_cons, List.length_nil, Nat.zero_add, Nat.add_zero, and_true, true_and, true_or, or_true, and_self, Nat.le_refl, Nat.lt_irrefl, gI_sI, gL_sL, gQ_sQ, gI_sJ, gI_sL, gI_sQ, gL_sI, gL_sQ, gL_sJ, gQ_sI, gQ_sL, gQ_sJ, gN_sI, gN_sL, gN_sQ, gN_sJ, E_bald_0, E_cV_a, E_cV_b, E_c_0, E_getI_0, E_getR_0, E_i2l_0, E_iald_0, E_inc_a, E_inc_b, E_jl_0, E_jmp_0, E_jp_0, E_jz_0, E_kk, E_l2_0, E_l2i_0, E_l2n_0, E_lcmp_0, E_ldI_a, E_ldI_b, E_ldL_a, E_ldL_b, E_ldR_a, E_ldR_b, E_rI_0, E_stI_0, E_stL_0, aL_41, aL_43, aL_73, am_cc, am_nl, am_ok, am_pop, am_rt, am_set, cC_12, cC_41, cC_43, cC_73, rR_1308, rR_1310, rR_1358, kX12_waitOf, kX12_waitOf_0, kX12_waitOf_1, lc_zero, ez, q1, lN_i]
    exact h1 q1
  by_cases q2 : 30000 < fWq d H wd q x
  · rw [hX12_waitOf 9]
    simp only [am_run_s, bt, lf, am_in, am_ar, am_fit, am_ld, am_ct, Nat.reduceLT, Nat.reduceEqDiff, reduceIte, Nat.reduceAdd, Nat.reduceLeDiff, Nat.reduceSub, Bool.false_eq_true, if_true, if_false, ite_true, ite_false, List.length_cons, List.length_nil, Nat.zero_add, Nat.add_zero, and_true, true_and, true_or, or_true, and_self, Nat.le_refl, Nat.lt_irrefl, gI_sI, gL_sL, gQ_sQ, gI_sJ, gI_sL, gI_sQ, gL_sI, gL_sQ, gL_sJ, gQ_sI, gQ_sL, gQ_sJ, gN_sI, gN_sL, gN_sQ, gN_sJ, E_bald_0, E_cV_a, E_cV_b, E_c_0, E_getI_0, E_getR_0, E_i2l_0, E_iald_0, E_inc_a, E_inc_b, E_jl_0, E_jmp_0, E_jp_0, E_jz_0, E_kk, E_l2_0, E_l2i_0, E_l2n_0, E_lcmp_0, E_ldI_a, E_ldI_b, E_ldL_a, E_ldL_b, E_ldR_a, E_ldR_b, E_rI_0, E_stI_0, E_stL_0, aL_41, aL_43, aL_73, am_cc, am_nl, am_ok, am_pop, am_rt, am_set, cC_12, cC_41, cC_43, cC_73, rR_1308, rR_1310, rR_1358, kX12_waitOf, kX12_waitOf_0, kX12_waitOf_1, lc_zero, lc_pos, ez, eg, q1, q2]
    exact h2 q2
  · rw [hX12_waitOf 10]
    simp only [am_run_s, bt, lf, am_in, am_ar, am_fit, am_ld, am_ct, Nat.reduceLT, Nat.reduceEqDiff, reduceIte, Nat.reduceAdd, Nat.reduceLeDiff, Nat.reduceSub, Bool.false_eq_true, if_true, if_false, ite_true, ite_false, List.length_cons, List.length_nil, Nat.zero_add, Nat.add_zero, and_true, true_and, true_or, or_true, and_self, Nat.le_refl, Nat.lt_irrefl, gI_sI, gL_sL, gQ_sQ, gI_sJ, gI_sL, gI_sQ, gL_sI, gL_sQ, gL_sJ, gQ_sI, gQ_sL, gQ_sJ, gN_sI, gN_sL, gN_sQ, gN_sJ, E_bald_0, E_cV_a, E_cV_b, E_c_0, E_getI_0, E_getR_0, E_i2l_0, E_iald_0, E_inc_a, E_inc_b, E_jl_0, E_jmp_0, E_jp_0, E_jz_0, E_kk, E_l2_0, E_l2i_0, E_l2n_0, E_lcmp_0, E_ldI_a, E_ldI_b, E_ldL_a, E_ldL_b, E_ldR_a, E_ldR_b, E_rI_0, E_stI_0, E_stL_0, aL_41, aL_43, aL_73, am_cc, am_nl, am_ok, am_pop, am_rt, am_set, cC_12, cC_41, cC_43, cC_73, rR_1308, rR_1310, rR_1358, kX12_waitOf, kX12_waitOf_0, kX12_waitOf_1, am_run_z, lc_zero, lc_pos, ez, eg, q1, q2]
    exact h3 q1 (by omega) _ _
theorem loop_wait {σ : HS} {d : DC} (hd : DM σ d) (ok : DOK d) {H : Nat → Bool} (hH : HM σ H d.1) {wd : Nat} (hw : wd < d.1) {Q : PO} {q : Nat} (hq : q ≤ 400) (hQ : ∀ r, isL (fWq d H wd q) 0 r → Q (some (.inl (onat r))) σ) :
    ∀ (n x : Nat) (o6 o8 : Option AV), 30000 ≤ x + n → x ≤ 30000 → x ≤ fWq d H wd q x → (∀ w, 0 ≤ w → fWq d H wd q w ≤ w → x ≤ w) → am_T (kX12_waitOf S1) MM Q 9 [some (.inr (.inr (some (12, 0)))), some (.inl (nI wd)), some (.inl (nI q)), some (.inr (.inl (lN x))), none, some (.inl (nI (bL d H wd d.1 - 1))), o6, none, o8] [] σ 0 0 := by
  intro n
  induction n with
  | zero =>
    intro x o6 o8 hn hx2 ha hl2
    refine wait_step hd ok hH hw hq x o6 o8 hx2 (fun e => ?_) (fun e => ?_) (fun e1 e2 => ?_)
    · exact hQ (some x) ⟨e, hx2, Nat.zero_le _, hl2⟩
    · refine hQ none (fun w h1 h2 h3 => ?_)
      have := fWq_mo d H wd q x w (hl2 w h1 h3)
      omega
    · omega
  | succ n ih =>
    intro x o6 o8 hn hx2 ha hl2
    refine wait_step hd ok hH hw hq x o6 o8 hx2 (fun e => ?_) (fun e => ?_) (fun e1 e2 o6 o8 => ?_)
    · exact hQ (some x) ⟨e, hx2, Nat.zero_le _, hl2⟩
    · refine hQ none (fun w h1 h2 h3 => ?_)
      have := fWq_mo d H wd q x w (hl2 w h1 h3)
      omega
    · refine ih (fWq d H wd q x) o6 o8 (by omega) e2 (fWq_mo d H wd q _ _ ha) (fun w h1 h3 => ?_)
      exact Nat.le_trans (fWq_mo d H wd q x w (hl2 w h1 h3)) h3
theorem c_waitOf {σ : HS} {d : DC} (hd : DM σ d) (ok : DOK d) {H : Nat → Bool} (hH : HM σ H d.1) {wd : Nat} (hw : wd < d.1) {Q : PO} {q : Nat} (hq : q ≤ 400) (hQ : ∀ r, isL (fWq d H wd q) 0 r → Q (some (.inl (onat r))) σ) : MM 198 [.inr (.inr (some (12, 0))), .inl (nI wd), .inl (nI q)] σ Q := by
  rw [eX12_waitOf 8]
  simp only [am_run_s, bt, lf, am_in, am_ar, am_fit, am_ld, am_ct, Nat.reduceLT, Nat.reduceEqDiff, reduceIte, Nat.reduceAdd, Nat.reduceLeDiff, Nat.reduceSub, Bool.false_eq_true, if_true, if_false, ite_true, ite_false, List.length_cons, List.length_nil, Nat.zero_add, Nat.add_zero, and_true, true_and, true_or, or_true, and_self, Nat.le_refl, Nat.lt_irrefl, gI_sI, gL_sL, gQ_sQ, gI_sJ, gI_sL, gI_sQ, gL_sI, gL_sQ, gL_sJ, gQ_sI, gQ_sL, gQ_sJ, gN_sI, gN_sL, gN_sQ, gN_sJ, E_bald_0, E_cV_a, E_cV_b, E_c_0, E_getI_0, E_getR_0, E_i2l_0, E_iald_0, E_inc_a, E_inc_b, E_jl_0, E_jmp_0, E_jp_0, E_jz_0, E_kk, E_l2_0, E_l2i_0, E_l2n_0, E_lcmp_0, E_ldI_a, E_ldI_b, E_ldL_a, E_ldL_b, E_ldR_a, E_ldR_b, E_rI_0, E_stI_0, E_stL_0, aL_41, aL_43, aL_73, am_cc, am_nl, am_ok, am_pop, am_rt, am_set, cC_12, cC_41, cC_43, cC_73, rR_1308, rR_1310, rR_1358, kX12_waitOf, kX12_waitOf_0, kX12_waitOf_1]
  refine c_blockedM hd ok hH hw ?_
  simp only [am_run_s, bt, lf, am_in, am_ar, am_fit, am_ld, am_ct, Nat.reduceLT, Nat.reduceEqDiff, reduceIte, Nat.reduceAdd, Nat.reduceLeDiff, Nat.reduceSub, Bool.false_eq_true, if_true, if_false, ite_true, ite_false, List.length_cons, List.length_nil, Nat.zero_add, Nat.add_zero, and_true, true_and, true_or, or_true, and_self, Nat.le_refl, Nat.lt_irrefl, gI_sI, gL_sL, gQ_sQ, gI_sJ, gI_sL, gI_sQ, gL_sI, gL_sQ, gL_sJ, gQ_sI, gQ_sL, gQ_sJ, gN_sI, gN_sL, gN_sQ, gN_sJ, E_bald_0, E_cV_a, E_cV_b, E_c_0, E_getI_0, E_getR_0, E_i2l_0, E_iald_0, E_inc_a, E_inc_b, E_jl_0, E_jmp_0, E_jp_0, E_jz_0, E_kk, E_l2_0, E_l2i_0, E_l2n_0, E_lcmp_0, E_ldI_a, E_ldI_b, E_ldL_a, E_ldL_b, E_ldR_a, E_ldR_b, E_rI_0, E_stI_0, E_stL_0, aL_41, aL_43, aL_73, am_cc, am_nl, am_ok, am_pop, am_rt, am_set, cC_12, cC_41, cC_43, cC_73, rR_1308, rR_1310, rR_1358, kX12_waitOf, kX12_waitOf_0, kX12_waitOf_1]
  exact loop_wait hd ok hH hw hq hQ 30000 0 _ _ (by omega) (by omega) (Nat.zero_le _) (fun w h1 _ => h1)
theorem tm_0 {d : DC} (ok : DOK d) {wd w : Nat} (hw : wd < d.1) (h : w ≤ 30000) : mxI 0 (tmW d wd 0 w) = tmW d wd 0 w := by
  have cc := ok.2.1 wd hw
  have jj := ok.2.2.2.1 wd hw
  have e : tmW d wd 0 w = nI (d.2.2.2.1 wd + w + d.2.1 wd) := by
    unfold tmW
    rw [pk_mul, Nat.zero_mul, nI_add, pk_sub (Nat.zero_le _), nI_add, Nat.sub_zero]
  unfold mxI
  rw [e, if_pos (nI_gt0 (by omega) (by omega))]
theorem l_worstOf {σ : HS} {d : DC} (hd : DM σ d) (ok : DOK d) {H : Nat → Bool} (hH : HM σ H d.1) {wd : Nat} (hw : wd < d.1) {Q : PO} {b : Nat} (hb : b ≤ 30000) : ∀ (n q : Nat) (acc : Int32) (o5 o6 : Option AV), n + q = 320 → q ≤ 310 → (q = 0 → acc = 0) → Q (some (.inl (wl d H wd b n q acc))) σ →
    am_T (kX12_worstOf S1) MM Q 17 [some (.inr (.inr (some (12, 0)))), some (.inl (nI wd)), some (.inl (nI b)), some (.inl acc), some (.inl (nI q)), o5, o6] [] σ 0 0 := by
  obtain ⟨-, m2, m3⟩ := hd.2.1 wd hw
  have h24 := ok.1
  have ht := ok.2.2.1 wd hw
  have hj := ok.2.2.2.1 wd hw
  have h3 : vp_in (nI wd) 24 := vp_in_nI (by omega) (by omega)
  have h4 : (nI wd).toNatClampNeg = wd := nI_clamp (by omega)
  have l1 : (nI (d.2.2.1 wd)).toInt64 = lN (d.2.2.1 wd) := nI_l (by omega)
  have l2 : (nI (b + d.2.2.2.1 wd)).toInt64 = lN (b + d.2.2.2.1 wd) := nI_l (by omega)
  intro n
  induction n with
  | zero =>
    intro q acc o5 o6 hn hq
    omega
  | succ n ih =>
    intro q acc o5 o6 hn hq h0 hQ
    have lq : (nI q).toInt64 = lN q := nI_l (by omega)
    have hqt : q * d.2.2.1 wd ≤ 310 * 100000 := Nat.mul_le_mul hq ht.2
    have hc : (lN (q * d.2.2.1 wd) < lN (b + d.2.2.2.1 wd)) = (q * d.2.2.1 wd < b + d.2.2.2.1 wd) := propext (pk_lLT (by omega) (by omega))
    by_cases q1 : q * d.2.2.1 wd < b + d.2.2.2.1 wd
    · rw [hX12_worstOf 20]
      simp only [am_run_s, bt, lf, am_in, am_ar, am_fit, am_ld, am_ct, Nat.reduceLT, Nat.reduceEqDiff, reduceIte, Nat.reduceAdd, Nat.reduceLeDiff, Nat.reduceSub, Bool.false_eq_true, if_true, if_false, ite_true, ite_false, List.length_cons, List.length_nil, Nat.zero_add, Nat.add_zero, and_true, true_and, true_or, or_true, and_self, Nat.le_refl, Nat.lt_irrefl, gI_sI, gL_sL, gQ_sQ, gI_sJ, gI_sL, gI_sQ, gL_sI, gL_sQ, gL_sJ, gQ_sI, gQ_sL, gQ_sJ, gN_sI, gN_sL, gN_sQ, gN_sJ, E_b2_0, E_cV_a, E_cV_b, E_c_0, E_getR_0, E_i2l_0, E_iald_0, E_inc_a, E_inc_b, E_jg_0, E_jmp_0, E_jn_0, E_jz_0, E_kk, E_l2_0, E_lcmp_0, E_ldI_a, E_ldI_b, E_ldR_a, E_ldR_b, E_rI_0, E_stI_0, aL_41, aL_43, am_cc, am_nl, am_ok, am_pop, am_rt, am_set, cC_12, cC_41, cC_43, rR_1308, rR_1310, kX12_worstOf, kX12_worstOf_0, kX12_worstOf_1, am_run_z, h3, h4, m2, m3, lq, l1, lN_mul, nI_add, l2, lc_neg, hc, q1]
      refine c_waitOf hd ok hH hw (by omega) (fun r hr => ?_)
      simp only [am_run_s, bt, lf, am_in, am_ar, am_fit, am_ld, am_ct, Nat.reduceLT, Nat.reduceEqDiff, reduceIte, Nat.reduceAdd, Nat.reduceLeDiff, Nat.reduceSub, Bool.false_eq_true, if_true, if_false, ite_true, ite_false, List.length_cons, List.length_nil, Nat.zero_add, Nat.add_zero, and_true, true_and, true_or, or_true, and_self, Nat.le_refl, Nat.lt_irrefl, gI_sI, gL_sL, gQ_sQ, gI_sJ, gI_sL, gI_sQ, gL_sI, gL_sQ, gL_sJ, gQ_sI, gQ_sL, gQ_sJ, gN_sI, gN_sL, gN_sQ, gN_sJ, E_b2_0, E_cV_a, E_cV_b, E_c_0, E_getR_0, E_i2l_0, E_iald_0, E_inc_a, E_inc_b, E_jg_0, E_jmp_0, E_jn_0, E_jz_0, E_kk, E_l2_0, E_lcmp_0, E_ldI_a, E_ldI_b, E_ldR_a, E_ldR_b, E_rI_0, E_stI_0, aL_41, aL_43, am_cc, am_nl, am_ok, am_pop, am_rt, am_set, cC_12, cC_41, cC_43, rR_1308, rR_1310, kX12_worstOf, kX12_worstOf_0, kX12_worstOf_1, am_run_z]
      cases r with
      | none =>
        rw [wl_n q1 hr] at hQ
        rw [hX12_worstOf 6]
        simp only [am_run_s, bt, lf, am_in, am_ar, am_fit, am_ld, am_ct, Nat.reduceLT, Nat.reduceEqDiff, reduceIte, Nat.reduceAdd, Nat.reduceLeDiff, Nat.reduceSub, Bool.false_eq_true, if_true, if_false, ite_true, ite_false, List.length_cons, List.length_nil, Nat.zero_add, Nat.add_zero, and_true, true_and, true_or, or_true, and_self, Nat.le_refl, Nat.lt_irrefl, gI_sI, gL_sL, gQ_sQ, gI_sJ, gI_sL, gI_sQ, gL_sI, gL_sQ, gL_sJ, gQ_sI, gQ_sL, gQ_sJ, gN_sI, gN_sL, gN_sQ, gN_sJ, E_b2_0, E_cV_a, E_cV_b, E_c_0, E_getR_0, E_i2l_0, E_iald_0, E_inc_a, E_inc_b, E_jg_0, E_jmp_0, E_jn_0, E_jz_0, E_kk, E_l2_0, E_lcmp_0, E_ldI_a, E_ldI_b, E_ldR_a, E_ldR_b, E_rI_0, E_stI_0, aL_41, aL_43, am_cc, am_nl, am_ok, am_pop, am_rt, am_set, cC_12, cC_41, cC_43, rR_1308, rR_1310, kX12_worstOf, kX12_worstOf_0, kX12_worstOf_1, show onat none = -1 from rfl, show ((-1 : Int32) < 0) = True by decide]
        exact hQ
      | some w =>
        rw [wl_s q1 hr] at hQ
        have hw3 := hr.2.1
        have hm := nI_f (j := w) (by omega)
        have hq1 : q + 1 ≤ 310 := by
          have : q * 100 ≤ q * d.2.2.1 wd := Nat.mul_le_mul_left q ht.1
          omega
        have go := fun o5 o6 => ih (q + 1) (mxI acc (tmW d wd q w)) o5 o6 (by omega) hq1 (fun z => absurd z (by omega)) hQ
        have et : nI (d.2.2.2.1 wd) + nI w - nI q * nI (d.2.2.1 wd) + nI (d.2.1 wd) = tmW d wd q w := rfl
        rw [hX12_worstOf 30]
        by_cases z : q = 0
        · have ea := h0 z
          subst z
          rw [ea, tm_0 ok hw hw3] at go
          have z' : (nI 0 = 0) = True := eq_true (by decide)
          simp only [am_run_s, bt, lf, am_in, am_ar, am_fit, am_ld, am_ct, Nat.reduceLT, Nat.reduceEqDiff, reduceIte, Nat.reduceAdd, Nat.reduceLeDiff, Nat.reduceSub, Bool.false_eq_true, if_true, if_false, ite_true, ite_false, List.length_cons, List.length_nil, Nat.zero_add, Nat.add_zero, and_true, true_and, true_or, or_true, and_self, Nat.le_refl, Nat.lt_irrefl, gI_sI, gL_sL, gQ_sQ, gI_sJ, gI_sL, gI_sQ, gL_sI, gL_sQ, gL_sJ, gQ_sI, gQ_sL, gQ_sJ, gN_sI, gN_sL, gN_sQ, gN_sJ, E_b2_0, E_cV_a, E_cV_b, E_c_0, E_getR_0, E_i2l_0, E_iald_0, E_inc_a, E_inc_b, E_jg_0, E_jmp_0, E_jn_0, E_jz_0, E_kk, E_l2_0, E_lcmp_0, E_ldI_a, E_ldI_b, E_ldR_a, E_ldR_b, E_rI_0, E_stI_0, aL_41, aL_43, am_cc, am_nl, am_ok, am_pop, am_rt, am_set, cC_12, cC_41, cC_43, rR_1308, rR_1310, kX12_worstOf, kX12_worstOf_0, kX12_worstOf_1, show onat (some w) = nI w from rfl, hm, h3, h4, m2, m3, ↓costM hd ok hw, et, z', nI_1]
          exact go _ _
        · have z' : (nI q = 0) = False := eq_false (nI_ne0 (by omega) (by omega))
          by_cases y : acc < tmW d wd q w
          · unfold mxI at go
            rw [if_pos y] at go
            simp only [am_run_s, bt, lf, am_in, am_ar, am_fit, am_ld, am_ct, Nat.reduceLT, Nat.reduceEqDiff, reduceIte, Nat.reduceAdd, Nat.reduceLeDiff, Nat.reduceSub, Bool.false_eq_true, if_true, if_false, ite_true, ite_false, List.length_cons, List.length_nil, Nat.zero_add, Nat.add_zero, and_true, true_and, true_or, or_true, and_self, Nat.le_refl, Nat.lt_irrefl, gI_sI, gL_sL, gQ_sQ, gI_sJ, gI_sL, gI_sQ, gL_sI, gL_sQ, gL_sJ, gQ_sI, gQ_sL, gQ_sJ, gN_sI, gN_sL, gN_sQ, gN_sJ, E_b2_0, E_cV_a, E_cV_b, E_c_0, E_getR_0, E_i2l_0, E_iald_0, E_inc_a, E_inc_b, E_jg_0, E_jmp_0, E_jn_0, E_jz_0, E_kk, E_l2_0, E_lcmp_0, E_ldI_a, E_ldI_b, E_ldR_a, E_ldR_b, E_rI_0, E_stI_0, aL_41, aL_43, am_cc, am_nl, am_ok, am_pop, am_rt, am_set, cC_12, cC_41, cC_43, rR_1308, rR_1310, kX12_worstOf, kX12_worstOf_0, kX12_worstOf_1, show onat (some w) = nI w from rfl, hm, h3, h4, m2, m3, ↓costM hd ok hw, et, z', y, nI_1]
            exact go _ _
          · unfold mxI at go
            rw [if_neg y] at go
            simp only [am_run_s, bt, lf, am_in, am_ar, am_fit, am_ld, am_ct, Nat.reduceLT, Nat.reduceEqDiff, reduceIte, Nat.reduceAdd, Nat.reduceLeDiff, Nat.reduceSub, Bool.false_eq_true, if_true, if_false, ite_true, ite_false, List.length_cons, List.length_nil, Nat.zero_add, Nat.add_zero, and_true, true_and, true_or, or_true, and_self, Nat.le_refl, Nat.lt_irrefl, gI_sI, gL_sL, gQ_sQ, gI_sJ, gI_sL, gI_sQ, gL_sI, gL_sQ, gL_sJ, gQ_sI, gQ_sL, gQ_sJ, gN_sI, gN_sL, gN_sQ, gN_sJ, E_b2_0, E_cV_a, E_cV_b, E_c_0, E_getR_0, E_i2l_0, E_iald_0, E_inc_a, E_inc_b, E_jg_0, E_jmp_0, E_jn_0, E_jz_0, E_kk, E_l2_0, E_lcmp_0, E_ldI_a, E_ldI_b, E_ldR_a, E_ldR_b, E_rI_0, E_stI_0, aL_41, aL_43, am_cc, am_nl, am_ok, am_pop, am_rt, am_set, cC_12, cC_41, cC_43, rR_1308, rR_1310, kX12_worstOf, kX12_worstOf_0, kX12_worstOf_1, show onat (some w) = nI w from rfl, hm, h3, h4, m2, m3, ↓costM hd ok hw, et, z', y, nI_1]
            exact go _ _
    · rw [wl_e q1] at hQ
      rw [hX12_worstOf 18]
      simp only [am_run_s, bt, lf, am_in, am_ar, am_fit, am_ld, am_ct, Nat.reduceLT, Nat.reduceEqDiff, reduceIte, Nat.reduceAdd, Nat.reduceLeDiff, Nat.reduceSub, Bool.false_eq_true, if_true, if_false, ite_true, ite_false, List.length_cons, List.length_nil, Nat.zero_add, Nat.add_zero, and_true, true_and, true_or, or_true, and_self, Nat.le_refl, Nat.lt_irrefl, gI_sI, gL_sL, gQ_sQ, gI_sJ, gI_sL, gI_sQ, gL_sI, gL_sQ, gL_sJ, gQ_sI, gQ_sL, gQ_sJ, gN_sI, gN_sL, gN_sQ, gN_sJ, E_b2_0, E_cV_a, E_cV_b, E_c_0, E_getR_0, E_i2l_0, E_iald_0, E_inc_a, E_inc_b, E_jg_0, E_jmp_0, E_jn_0, E_jz_0, E_kk, E_l2_0, E_lcmp_0, E_ldI_a, E_ldI_b, E_ldR_a, E_ldR_b, E_rI_0, E_stI_0, aL_41, aL_43, am_cc, am_nl, am_ok, am_pop, am_rt, am_set, cC_12, cC_41, cC_43, rR_1308, rR_1310, kX12_worstOf, kX12_worstOf_0, kX12_worstOf_1, h3, h4, m2, m3, lq, l1, lN_mul, nI_add, l2, lc_neg, hc, q1]
      exact hQ
theorem c_worstOf {σ : HS} {d : DC} (hd : DM σ d) (ok : DOK d) {H : Nat → Bool} (hH : HM σ H d.1) {wd : Nat} (hw : wd < d.1) (h0 : H wd = false) {Q : PO} (hQ : Q (some (.inl (wst d H wd))) σ) : MM 199 [.inr (.inr (some (12, 0))), .inl (nI wd)] σ Q := by
  rw [eX12_worstOf 3]
  simp only [am_run_s, bt, lf, am_in, am_ar, am_fit, am_ld, am_ct, Nat.reduceLT, Nat.reduceEqDiff, reduceIte, Nat.reduceAdd, Nat.reduceLeDiff, Nat.reduceSub, Bool.false_eq_true, if_true, if_false, ite_true, ite_false, List.length_cons, List.length_nil, Nat.zero_add, Nat.add_zero, and_true, true_and, true_or, or_true, and_self, Nat.le_refl, Nat.lt_irrefl, gI_sI, gL_sL, gQ_sQ, gI_sJ, gI_sL, gI_sQ, gL_sI, gL_sQ, gL_sJ, gQ_sI, gQ_sL, gQ_sJ, gN_sI, gN_sL, gN_sQ, gN_sJ, E_b2_0, E_cV_a, E_cV_b, E_c_0, E_getR_0, E_i2l_0, E_iald_0, E_inc_a, E_inc_b, E_jg_0, E_jmp_0, E_jn_0, E_jz_0, E_kk, E_l2_0, E_lcmp_0, E_ldI_a, E_ldI_b, E_ldR_a, E_ldR_b, E_rI_0, E_stI_0, aL_41, aL_43, am_cc, am_nl, am_ok, am_pop, am_rt, am_set, cC_12, cC_41, cC_43, rR_1308, rR_1310, kX12_worstOf, kX12_worstOf_0, kX12_worstOf_1, am_run_z]
  refine c_busy hd ok hH hw h0 (fun r hr => ?_)
  simp only [am_run_s, bt, lf, am_in, am_ar, am_fit, am_ld, am_ct, Nat.reduceLT, Nat.reduceEqDiff, reduceIte, Nat.reduceAdd, Nat.reduceLeDiff, Nat.reduceSub, Bool.false_eq_true, if_true, if_false, ite_true, ite_false, List.length_cons, List.length_nil, Nat.zero_add, Nat.add_zero, and_true, true_and, true_or, or_true, and_self, Nat.le_refl, Nat.lt_irrefl, gI_sI, gL_sL, gQ_sQ, gI_sJ, gI_sL, gI_sQ, gL_sI, gL_sQ, gL_sJ, gQ_sI, gQ_sL, gQ_sJ, gN_sI, gN_sL, gN_sQ, gN_sJ, E_b2_0, E_cV_a, E_cV_b, E_c_0, E_getR_0, E_i2l_0, E_iald_0, E_inc_a, E_inc_b, E_jg_0, E_jmp_0, E_jn_0, E_jz_0, E_kk, E_l2_0, E_lcmp_0, E_ldI_a, E_ldI_b, E_ldR_a, E_ldR_b, E_rI_0, E_stI_0, aL_41, aL_43, am_cc, am_nl, am_ok, am_pop, am_rt, am_set, cC_12, cC_41, cC_43, rR_1308, rR_1310, kX12_worstOf, kX12_worstOf_0, kX12_worstOf_1, am_run_z]
  cases r with
  | none =>
    rw [wst_n hr] at hQ
    rw [hX12_worstOf 6]
    simp only [am_run_s, bt, lf, am_in, am_ar, am_fit, am_ld, am_ct, Nat.reduceLT, Nat.reduceEqDiff, reduceIte, Nat.reduceAdd, Nat.reduceLeDiff, Nat.reduceSub, Bool.false_eq_true, if_true, if_false, ite_true, ite_false, List.length_cons, List.length_nil, Nat.zero_add, Nat.add_zero, and_true, true_and, true_or, or_true, and_self, Nat.le_refl, Nat.lt_irrefl, gI_sI, gL_sL, gQ_sQ, gI_sJ, gI_sL, gI_sQ, gL_sI, gL_sQ, gL_sJ, gQ_sI, gQ_sL, gQ_sJ, gN_sI, gN_sL, gN_sQ, gN_sJ, E_b2_0, E_cV_a, E_cV_b, E_c_0, E_getR_0, E_i2l_0, E_iald_0, E_inc_a, E_inc_b, E_jg_0, E_jmp_0, E_jn_0, E_jz_0, E_kk, E_l2_0, E_lcmp_0, E_ldI_a, E_ldI_b, E_ldR_a, E_ldR_b, E_rI_0, E_stI_0, aL_41, aL_43, am_cc, am_nl, am_ok, am_pop, am_rt, am_set, cC_12, cC_41, cC_43, rR_1308, rR_1310, kX12_worstOf, kX12_worstOf_0, kX12_worstOf_1, show onat none = -1 from rfl, show ((-1 : Int32) < 0) = True by decide]
    exact hQ
  | some b =>
    rw [wst_s hr] at hQ
    have hb3 := hr.2.1
    have hm := nI_f (j := b) (by omega)
    rw [hX12_worstOf 6]
    simp only [am_run_s, bt, lf, am_in, am_ar, am_fit, am_ld, am_ct, Nat.reduceLT, Nat.reduceEqDiff, reduceIte, Nat.reduceAdd, Nat.reduceLeDiff, Nat.reduceSub, Bool.false_eq_true, if_true, if_false, ite_true, ite_false, List.length_cons, List.length_nil, Nat.zero_add, Nat.add_zero, and_true, true_and, true_or, or_true, and_self, Nat.le_refl, Nat.lt_irrefl, gI_sI, gL_sL, gQ_sQ, gI_sJ, gI_sL, gI_sQ, gL_sI, gL_sQ, gL_sJ, gQ_sI, gQ_sL, gQ_sJ, gN_sI, gN_sL, gN_sQ, gN_sJ, E_b2_0, E_cV_a, E_cV_b, E_c_0, E_getR_0, E_i2l_0, E_iald_0, E_inc_a, E_inc_b, E_jg_0, E_jmp_0, E_jn_0, E_jz_0, E_kk, E_l2_0, E_lcmp_0, E_ldI_a, E_ldI_b, E_ldR_a, E_ldR_b, E_rI_0, E_stI_0, aL_41, aL_43, am_cc, am_nl, am_ok, am_pop, am_rt, am_set, cC_12, cC_41, cC_43, rR_1308, rR_1310, kX12_worstOf, kX12_worstOf_0, kX12_worstOf_1, am_run_z, show onat (some b) = nI b from rfl, hm]
    exact l_worstOf hd ok hH hw hb3 320 0 0 _ _ (by omega) (by omega) (fun _ => rfl) hQ
