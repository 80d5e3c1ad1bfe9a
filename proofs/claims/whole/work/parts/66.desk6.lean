/-! ===== the desk: the reference's least numbers ===== -/
def msm (d : DC) (H : Nat → Bool) (wd w n : Nat) : Nat := dsum (fun k => if k = wd ∨ H k = true then plc d w k * d.2.1 k else 0) n
theorem msm_e {d : DC} {H : Nat → Bool} {wd w : Nat} (hw : wd < d.1) (h0 : H wd = false) : msm d H wd w d.1 = hsm d H w d.1 + plc d w wd * d.2.1 wd := by
  unfold msm hsm
  refine dsum_add hw (fun k _ hn => ?_) ?_
  · by_cases e : H k = true
    · rw [if_pos (Or.inr e), if_pos e]
    · rw [if_neg (fun z => z.elim hn e), if_neg e]
  · rw [if_pos (Or.inl rfl), if_neg (by rw [h0]; decide), Nat.zero_add]
theorem msm_bd {d : DC} (h : DOK d) (H : Nat → Bool) {wd w n : Nat} (hw : w ≤ 30000) (hn : n ≤ d.1) : msm d H wd w n ≤ 1492800 := by
  have h1 : msm d H wd w n ≤ n * 62200 := by
    apply dsum_bd
    intro k hk
    split
    · exact plC_bd h hw (by omega)
    · omega
  have h2 := h.1
  have h3 : n * 62200 ≤ 24 * 62200 := Nat.mul_le_mul_right _ (by omega)
  omega
theorem lN1 : (1 : Int64) = lN 1 := by decide
theorem l_busyI {σ : HS} {d : DC} (hd : DM σ d) (ok : DOK d) {H : Nat → Bool} (hH : HM σ H d.1) {wd t s B : Nat} (hw : wd < d.1) (ht : 1 ≤ t) (ht2 : t ≤ 30000) (hs : s ≤ 200000) {Q : PO} (hX : am_T (kX12_busy S1) MM Q 98 [some (.inr (.inr (some (12, 0)))), some (.inl (nI wd)), some (.inr (.inl (lN t))), none, some (.inl (nI B)), some (.inr (.inl (lN (s + msm d H wd (t - 1) d.1)))), none, some (.inl (nI d.1))] [] σ 0 0) :
    ∀ (r i : Nat), i + r = d.1 → am_T (kX12_busy S1) MM Q 24 [some (.inr (.inr (some (12, 0)))), some (.inl (nI wd)), some (.inr (.inl (lN t))), none, some (.inl (nI B)), some (.inr (.inl (lN (s + msm d H wd (t - 1) i)))), none, some (.inl (nI i))] [] σ 0 0 := by
  have h24 := ok.1
  intro r
  induction r with
  | zero =>
    intro i hi
    have e : i = d.1 := by omega
    subst e
    rw [hX12_busy 3]
    have h0 : ¬ nI d.1 < nI d.1 := nI_nlt (by omega) (by omega)
    simp only [am_run_s, bt, lf, am_in, am_ar, am_fit, am_ld, am_ct, Nat.reduceLT, Nat.reduceEqDiff, reduceIte, Nat.reduceAdd, Nat.reduceLeDiff, Nat.reduceSub, Bool.false_eq_true, if_true, if_false, ite_true, ite_false, List.length_cons, List.length_nil, Nat.zero_add, Nat.add_zero, and_true, true_and, true_or, or_true, and_self, Nat.le_refl, Nat.lt_irrefl, gI_sI, gL_sL, gQ_sQ, gI_sJ, gI_sL, gI_sQ, gL_sI, gL_sQ, gL_sJ, gQ_sI, gQ_sL, gQ_sJ, gN_sI, gN_sL, gN_sQ, gN_sJ, E_bald_0, E_cV_a, E_cV_b, E_c_0, E_getI_0, E_getR_0, E_i2l_0, E_iald_0, E_inc_a, E_inc_b, E_je_0, E_jl_0, E_jmp_0, E_jp_0, E_jz_0, E_kk, E_l2_0, E_l2i_0, E_l2n_0, E_lcmp_0, E_ldI_a, E_ldI_b, E_ldL_a, E_ldL_b, E_ldR_a, E_ldR_b, E_rI_0, E_stI_0, E_stL_0, aL_41, aL_43, aL_73, am_cc, am_nl, am_ok, am_pop, am_rt, am_set, cC_12, cC_41, cC_43, cC_73, rR_1308, rR_1310, rR_1358, kX12_busy, kX12_busy_0, kX12_busy_1, am_run_z, hd.1, h0]
    exact hX
  | succ r ih =>
    intro i hi
    have hk : i < d.1 := by omega
    have h2 := nI_t hk (by omega)
    have h3 : vp_in (nI i) 24 := vp_in_nI (by omega) (by omega)
    have h4 : (nI i).toNatClampNeg = i := nI_clamp (by omega)
    have hb := hH i hk
    have cc := ok.2.1 i hk
    have tt := ok.2.2.1 i hk
    have jj := ok.2.2.2.1 i hk
    obtain ⟨-, m2, m3⟩ := hd.2.1 i hk
    have := ih (i + 1) (by omega)
    unfold msm at this
    rw [dsum_s] at this
    have l1 : (nI (d.2.2.1 i)).toInt64 = lN (d.2.2.1 i) := nI_l (by omega)
    have l2 : (nI (d.2.2.2.1 i)).toInt64 = lN (d.2.2.2.1 i) := nI_l (by omega)
    have l3 : (nI (d.2.1 i)).toInt64 = lN (d.2.1 i) := nI_l (by omega)
    have l4 : ¬ lN (d.2.2.1 i) = 0 := by
      rw [show (0 : Int64) = lN 0 by decide]
      exact fun z => absurd ((pk_lEQ (by omega) (by omega)).mp z) (by omega)
    have l5 : ∀ x : Nat, lN x + (lN t + lN (d.2.2.2.1 i) + lN (d.2.2.1 i) - 1) / lN (d.2.2.1 i) * lN (d.2.1 i) = lN (x + plc d (t - 1) i * d.2.1 i) := by
      intro x
      rw [lN_add, lN_add, lN1, lN_sub (by omega), pk_lDiv (by omega) (by omega) (by omega), lN_mul, lN_add]
      unfold plc
      rw [show t + d.2.2.2.1 i + d.2.2.1 i - 1 = t - 1 + d.2.2.2.1 i + d.2.2.1 i by omega]
    rw [hX12_busy 44]
    by_cases z : i = wd
    · have z' : (nI i = nI wd) = True := eq_true (by rw [z])
      rw [if_pos (Or.inl z), ← Nat.add_assoc] at this
      simp only [am_run_s, bt, lf, am_in, am_ar, am_fit, am_ld, am_ct, Nat.reduceLT, Nat.reduceEqDiff, reduceIte, Nat.reduceAdd, Nat.reduceLeDiff, Nat.reduceSub, Bool.false_eq_true, if_true, if_false, ite_true, ite_false, List.length_cons, List.length_nil, Nat.zero_add, Nat.add_zero, and_true, true_and, true_or, or_true, and_self, Nat.le_refl, Nat.lt_irrefl, gI_sI, gL_sL, gQ_sQ, gI_sJ, gI_sL, gI_sQ, gL_sI, gL_sQ, gL_sJ, gQ_sI, gQ_sL, gQ_sJ, gN_sI, gN_sL, gN_sQ, gN_sJ, E_bald_0, E_cV_a, E_cV_b, E_c_0, E_getI_0, E_getR_0, E_i2l_0, E_iald_0, E_inc_a, E_inc_b, E_je_0, E_jl_0, E_jmp_0, E_jp_0, E_jz_0, E_kk, E_l2_0, E_l2i_0, E_l2n_0, E_lcmp_0, E_ldI_a, E_ldI_b, E_ldL_a, E_ldL_b, E_ldR_a, E_ldR_b, E_rI_0, E_stI_0, E_stL_0, aL_41, aL_43, aL_73, am_cc, am_nl, am_ok, am_pop, am_rt, am_set, cC_12, cC_41, cC_43, cC_73, rR_1308, rR_1310, rR_1358, kX12_busy, kX12_busy_0, kX12_busy_1, hd.1, h2, h3, h4, z', m2, m3, l1, l2, l4, ↓costM hd ok hk, l3, l5, not_false_eq_true, nI_1]
      exact this
    have z' : (nI i = nI wd) = False := eq_false (fun y => z ((nI_eq (by omega) (by omega)).mp y))
    cases e : H i with
    | true =>
      have e0 : (bb (H i) = 0) = False := by rw [bb_0, e]; simp
      rw [if_pos (Or.inr e), ← Nat.add_assoc] at this
      simp only [am_run_s, bt, lf, am_in, am_ar, am_fit, am_ld, am_ct, Nat.reduceLT, Nat.reduceEqDiff, reduceIte, Nat.reduceAdd, Nat.reduceLeDiff, Nat.reduceSub, Bool.false_eq_true, if_true, if_false, ite_true, ite_false, List.length_cons, List.length_nil, Nat.zero_add, Nat.add_zero, and_true, true_and, true_or, or_true, and_self, Nat.le_refl, Nat.lt_irrefl, gI_sI, gL_sL, gQ_sQ, gI_sJ, gI_sL, gI_sQ, gL_sI, gL_sQ, gL_sJ, gQ_sI, gQ_sL, gQ_sJ, gN_sI, gN_sL, gN_sQ, gN_sJ, E_bald_0, E_cV_a, E_cV_b, E_c_0, E_getI_0, E_getR_0, E_i2l_0, E_iald_0, E_inc_a, E_inc_b, E_je_0, E_jl_0, E_jmp_0, E_jp_0, E_jz_0, E_kk, E_l2_0, E_l2i_0, E_l2n_0, E_lcmp_0, E_ldI_a, E_ldI_b, E_ldL_a, E_ldL_b, E_ldR_a, E_ldR_b, E_rI_0, E_stI_0, E_stL_0, aL_41, aL_43, aL_73, am_cc, am_nl, am_ok, am_pop, am_rt, am_set, cC_12, cC_41, cC_43, cC_73, rR_1308, rR_1310, rR_1358, kX12_busy, kX12_busy_0, kX12_busy_1, hd.1, h2, h3, h4, z', hb, e0, m2, m3, l1, l2, l4, ↓costM hd ok hk, l3, l5, not_false_eq_true, nI_1]
      exact this
    | false =>
      have e0 : (bb (H i) = 0) = True := by rw [bb_0, e]; simp
      rw [if_neg (fun y => y.elim z (by rw [e]; decide)), Nat.add_zero] at this
      simp only [am_run_s, bt, lf, am_in, am_ar, am_fit, am_ld, am_ct, Nat.reduceLT, Nat.reduceEqDiff, reduceIte, Nat.reduceAdd, Nat.reduceLeDiff, Nat.reduceSub, Bool.false_eq_true, if_true, if_false, ite_true, ite_false, List.length_cons, List.length_nil, Nat.zero_add, Nat.add_zero, and_true, true_and, true_or, or_true, and_self, Nat.le_refl, Nat.lt_irrefl, gI_sI, gL_sL, gQ_sQ, gI_sJ, gI_sL, gI_sQ, gL_sI, gL_sQ, gL_sJ, gQ_sI, gQ_sL, gQ_sJ, gN_sI, gN_sL, gN_sQ, gN_sJ, E_bald_0, E_cV_a, E_cV_b, E_c_0, E_getI_0, E_getR_0, E_i2l_0, E_iald_0, E_inc_a, E_inc_b, E_je_0, E_jl_0, E_jmp_0, E_jp_0, E_jz_0, E_kk, E_l2_0, E_l2i_0, E_l2n_0, E_lcmp_0, E_ldI_a, E_ldI_b, E_ldL_a, E_ldL_b, E_ldR_a, E_ldR_b, E_rI_0, E_stI_0, E_stL_0, aL_41, aL_43, aL_73, am_cc, am_nl, am_ok, am_pop, am_rt, am_set, cC_12, cC_41, cC_43, cC_73, rR_1308, rR_1310, rR_1358, kX12_busy, kX12_busy_0, kX12_busy_1, hd.1, h2, h3, h4, z', hb, e0, nI_1]
      exact this
theorem busy_step {σ : HS} {d : DC} (hd : DM σ d) (ok : DOK d) {H : Nat → Bool} (hH : HM σ H d.1) {wd : Nat} (hw : wd < d.1) (h0 : H wd = false) {Q : PO} (x : Nat) (o5 o7 : Option AV) (hx : 1 ≤ x) (hx2 : x ≤ 30000)
    (h1 : fBz d H wd x = x → Q (some (.inl (nI x))) σ) (h2 : 30000 < fBz d H wd x → Q (some (.inl (-1))) σ)
    (h3 : ¬ fBz d H wd x = x → fBz d H wd x ≤ 30000 → ∀ o5 o7, am_T (kX12_busy S1) MM Q 9 [some (.inr (.inr (some (12, 0)))), some (.inl (nI wd)), some (.inr (.inl (lN (fBz d H wd x)))), none, some (.inl (nI (bL d H wd d.1 - 1))), o5, none, o7] [] σ 0 0) :
    am_T (kX12_busy S1) MM Q 9 [some (.inr (.inr (some (12, 0)))), some (.inl (nI wd)), some (.inr (.inl (lN x))), none, some (.inl (nI (bL d H wd d.1 - 1))), o5, none, o7] [] σ 0 0 := by
  have bb1 := bL_bd ok H wd d.1 (Nat.le_refl _)
  have bb2 := flt_bd ok H hx2 hw
  have bb4 := msm_bd ok H (wd := wd) (show x - 1 ≤ 30000 by omega) (Nat.le_refl d.1)
  have ef : bL d H wd d.1 - 1 + flt d H wd x + msm d H wd (x - 1) d.1 = fBz d H wd x := by
    rw [msm_e hw h0]; unfold fBz; omega
  have lb : (nI (bL d H wd d.1 - 1)).toInt64 = lN (bL d H wd d.1 - 1) := nI_l (by omega)
  have hbd : fBz d H wd x ≤ 1700000 := by omega
  rw [hX12_busy 10]
  simp only [am_run_s, bt, lf, am_in, am_ar, am_fit, am_ld, am_ct, Nat.reduceLT, Nat.reduceEqDiff, reduceIte, Nat.reduceAdd, Nat.reduceLeDiff, Nat.reduceSub, Bool.false_eq_true, if_true, if_false, ite_true, ite_false, List.length_cons, List.length_nil, Nat.zero_add, Nat.add_zero, and_true, true_and, true_or, or_true, and_self, Nat.le_refl, Nat.lt_irrefl, gI_sI, gL_sL, gQ_sQ, gI_sJ, gI_sL, gI_sQ, gL_sI, gL_sQ, gL_sJ, gQ_sI, gQ_sL, gQ_sJ, gN_sI, gN_sL, gN_sQ, gN_sJ, E_bald_0, E_cV_a, E_cV_b, E_c_0, E_getI_0, E_getR_0, E_i2l_0, E_iald_0, E_inc_a, E_inc_b, E_je_0, E_jl_0, E_jmp_0, E_jp_0, E_jz_0, E_kk, E_l2_0, E_l2i_0, E_l2n_0, E_lcmp_0, E_ldI_a, E_ldI_b, E_ldL_a, E_ldL_b, E_ldR_a, E_ldR_b, E_rI_0, E_stI_0, E_stL_0, aL_41, aL_43, aL_73, am_cc, am_nl, am_ok, am_pop, am_rt, am_set, cC_12, cC_41, cC_43, cC_73, rR_1308, rR_1310, rR_1358, kX12_busy, kX12_busy_0, kX12_busy_1]
  refine c_faulty hd ok hH hw hx2 ?_
  simp only [am_run_s, bt, lf, am_in, am_ar, am_fit, am_ld, am_ct, Nat.reduceLT, Nat.reduceEqDiff, reduceIte, Nat.reduceAdd, Nat.reduceLeDiff, Nat.reduceSub, Bool.false_eq_true, if_true, if_false, ite_true, ite_false, List.length_cons, List.length_nil, Nat.zero_add, Nat.add_zero, and_true, true_and, true_or, or_true, and_self, Nat.le_refl, Nat.lt_irrefl, gI_sI, gL_sL, gQ_sQ, gI_sJ, gI_sL, gI_sQ, gL_sI, gL_sQ, gL_sJ, gQ_sI, gQ_sL, gQ_sJ, gN_sI, gN_sL, gN_sQ, gN_sJ, E_bald_0, E_cV_a, E_cV_b, E_c_0, E_getI_0, E_getR_0, E_i2l_0, E_iald_0, E_inc_a, E_inc_b, E_je_0, E_jl_0, E_jmp_0, E_jp_0, E_jz_0, E_kk, E_l2_0, E_l2i_0, E_l2n_0, E_lcmp_0, E_ldI_a, E_ldI_b, E_ldL_a, E_ldL_b, E_ldR_a, E_ldR_b, E_rI_0, E_stI_0, E_stL_0, aL_41, aL_43, aL_73, am_cc, am_nl, am_ok, am_pop, am_rt, am_set, cC_12, cC_41, cC_43, cC_73, rR_1308, rR_1310, rR_1358, kX12_busy, kX12_busy_0, kX12_busy_1, lb, lN_add]
  refine l_busyI (s := bL d H wd d.1 - 1 + flt d H wd x) hd ok hH hw hx hx2 (by omega) ?_ d.1 0 (by omega)
  rw [ef]
  have ez : (lN (fBz d H wd x) = lN x) = (fBz d H wd x = x) := propext (pk_lEQ (by omega) (by omega))
  have eg : ((30000 : Int64) < lN (fBz d H wd x)) = (30000 < fBz d H wd x) := by
    rw [show (30000 : Int64) = lN 30000 by decide]
    exact propext (pk_lLT (by omega) (by omega))
  by_cases q1 : fBz d H wd x = x
  · rw [hX12_busy 6]
    simp only [am_run_s, bt, lf, am_in, am_ar, am_fit, am_ld, am_ct, Nat.reduceLT, Nat.reduceEqDiff, reduceIte, Nat.reduceAdd, Nat.reduceLeDiff, Nat.reduceSub, Bool.false_eq_true, if_true, if_false, ite_true, ite_false, List.length_cons, List.length_nil, Nat.zero_add, Nat.add_zero, and_true, true_and, true_or, or_true, and_self, Nat.le_refl, Nat.lt_irrefl, gI_sI, gL_sL, gQ_sQ, gI_sJ, gI_sL, gI_sQ, gL_sI, gL_sQ, gL_sJ, gQ_sI, gQ_sL, gQ_sJ, gN_sI, gN_sL, gN_sQ, gN_sJ, E_bald_0, E_cV_a, E_cV_b, E_c_0, E_getI_0, E_getR_0, E_i2l_0, E_iald_0, E_inc_a, E_inc_b, E_je_0, E_jl_0, E_jmp_0, E_jp_0, E_jz_0, E_kk, E_l2_0, E_l2i_0, E_l2n_0, E_lcmp_0, E_ldI_a, E_ldI_b, E_ldL_a, E_ldL_b, E_ldR_a, E_ldR_b, E_rI_0, E_stI_0, E_stL_0, aL_41, aL_43, aL_73, am_cc, am_nl, am_ok, am_pop, am_rt, am_set, cC_12, cC_41, cC_43, cC_73, rR_1308, rR_1310, rR_1358, kX12_busy, kX12_busy_0, kX12_busy_1, lc_zero, ez, q1, lN_i]
    exact h1 q1
  by_cases q2 : 30000 < fBz d H wd x
  · rw [hX12_busy 9]
    simp only [am_run_s, bt, lf, am_in, am_ar, am_fit, am_ld, am_ct, Nat.reduceLT, Nat.reduceEqDiff, reduceIte, Nat.reduceAdd, Nat.reduceLeDiff, Nat.reduceSub, Bool.false_eq_true, if_true, if_false, ite_true, ite_false, List.length_cons, List.length_nil, Nat.zero_add, Nat.add_zero, and_true, true_and, true_or, or_true, and_self, Nat.le_refl, Nat.lt_irrefl, gI_sI, gL_sL, gQ_sQ, gI_sJ, gI_sL, gI_sQ, gL_sI, gL_sQ, gL_sJ, gQ_sI, gQ_sL, gQ_sJ, gN_sI, gN_sL, gN_sQ, gN_sJ, E_bald_0, E_cV_a, E_cV_b, E_c_0, E_getI_0, E_getR_0, E_i2l_0, E_iald_0, E_inc_a, E_inc_b, E_je_0, E_jl_0, E_jmp_0, E_jp_0, E_jz_0, E_kk, E_l2_0, E_l2i_0, E_l2n_0, E_lcmp_0, E_ldI_a, E_ldI_b, E_ldL_a, E_ldL_b, E_ldR_a, E_ldR_b, E_rI_0, E_stI_0, E_stL_0, aL_41, aL_43, aL_73, am_cc, am_nl, am_ok, am_pop, am_rt, am_set, cC_12, cC_41, cC_43, cC_73, rR_1308, rR_1310, rR_1358, kX12_busy, kX12_busy_0, kX12_busy_1, lc_zero, lc_pos, ez, eg, q1, q2]
    exact h2 q2
  · rw [hX12_busy 10]
    simp only [am_run_s, bt, lf, am_in, am_ar, am_fit, am_ld, am_ct, Nat.reduceLT, Nat.reduceEqDiff, reduceIte, Nat.reduceAdd, Nat.reduceLeDiff, Nat.reduceSub, Bool.false_eq_true, if_true, if_false, ite_true, ite_false, List.length_cons, List.length_nil, Nat.zero_add, Nat.add_zero, and_true, true_and, true_or, or_true, and_self, Nat.le_refl, Nat.lt_irrefl, gI_sI, gL_sL, gQ_sQ, gI_sJ, gI_sL, gI_sQ, gL_sI, gL_sQ, gL_sJ, gQ_sI, gQ_sL, gQ_sJ, gN_sI, gN_sL, gN_sQ, gN_sJ, E_bald_0, E_cV_a, E_cV_b, E_c_0, E_getI_0, E_getR_0, E_i2l_0, E_iald_0, E_inc_a, E_inc_b, E_je_0, E_jl_0, E_jmp_0, E_jp_0, E_jz_0, E_kk, E_l2_0, E_l2i_0, E_l2n_0, E_lcmp_0, E_ldI_a, E_ldI_b, E_ldL_a, E_ldL_b, E_ldR_a, E_ldR_b, E_rI_0, E_stI_0, E_stL_0, aL_41, aL_43, aL_73, am_cc, am_nl, am_ok, am_pop, am_rt, am_set, cC_12, cC_41, cC_43, cC_73, rR_1308, rR_1310, rR_1358, kX12_busy, kX12_busy_0, kX12_busy_1, am_run_z, lc_zero, lc_pos, ez, eg, q1, q2]
    exact h3 q1 (by omega) _ _
theorem loop_busy {σ : HS} {d : DC} (hd : DM σ d) (ok : DOK d) {H : Nat → Bool} (hH : HM σ H d.1) {wd : Nat} (hw : wd < d.1) (h0 : H wd = false) {Q : PO} (hQ : ∀ r, isL (fBz d H wd) 1 r → Q (some (.inl (onat r))) σ) :
    ∀ (n x : Nat) (o5 o7 : Option AV), 30000 ≤ x + n → 1 ≤ x → x ≤ 30000 → x ≤ fBz d H wd x → (∀ w, 1 ≤ w → fBz d H wd w ≤ w → x ≤ w) → am_T (kX12_busy S1) MM Q 9 [some (.inr (.inr (some (12, 0)))), some (.inl (nI wd)), some (.inr (.inl (lN x))), none, some (.inl (nI (bL d H wd d.1 - 1))), o5, none, o7] [] σ 0 0 := by
  intro n
  induction n with
  | zero =>
    intro x o5 o7 hn hx hx2 ha hl2
    refine busy_step hd ok hH hw h0 x o5 o7 hx hx2 (fun e => ?_) (fun e => ?_) (fun e1 e2 => ?_)
    · exact hQ (some x) ⟨e, hx2, hx, hl2⟩
    · refine hQ none (fun w h1 h2 h3 => ?_)
      have := fBz_mo d H wd x w (hl2 w h1 h3)
      omega
    · omega
  | succ n ih =>
    intro x o5 o7 hn hx hx2 ha hl2
    refine busy_step hd ok hH hw h0 x o5 o7 hx hx2 (fun e => ?_) (fun e => ?_) (fun e1 e2 o5 o7 => ?_)
    · exact hQ (some x) ⟨e, hx2, hx, hl2⟩
    · refine hQ none (fun w h1 h2 h3 => ?_)
      have := fBz_mo d H wd x w (hl2 w h1 h3)
      omega
    · refine ih (fBz d H wd x) o5 o7 (by omega) (by omega) e2 (fBz_mo d H wd _ _ ha) (fun w h1 h3 => ?_)
      exact Nat.le_trans (fBz_mo d H wd x w (hl2 w h1 h3)) h3
theorem c_busy {σ : HS} {d : DC} (hd : DM σ d) (ok : DOK d) {H : Nat → Bool} (hH : HM σ H d.1) {wd : Nat} (hw : wd < d.1) (h0 : H wd = false) {Q : PO} (hQ : ∀ r, isL (fBz d H wd) 1 r → Q (some (.inl (onat r))) σ) : MM 197 [.inr (.inr (some (12, 0))), .inl (nI wd)] σ Q := by
  rw [eX12_busy 8]
  simp only [am_run_s, bt, lf, am_in, am_ar, am_fit, am_ld, am_ct, Nat.reduceLT, Nat.reduceEqDiff, reduceIte, Nat.reduceAdd, Nat.reduceLeDiff, Nat.reduceSub, Bool.false_eq_true, if_true, if_false, ite_true, ite_false, List.length_cons, List.length_nil, Nat.zero_add, Nat.add_zero, and_true, true_and, true_or, or_true, and_self, Nat.le_refl, Nat.lt_irrefl, gI_sI, gL_sL, gQ_sQ, gI_sJ, gI_sL, gI_sQ, gL_sI, gL_sQ, gL_sJ, gQ_sI, gQ_sL, gQ_sJ, gN_sI, gN_sL, gN_sQ, gN_sJ, E_bald_0, E_cV_a, E_cV_b, E_c_0, E_getI_0, E_getR_0, E_i2l_0, E_iald_0, E_inc_a, E_inc_b, E_je_0, E_jl_0, E_jmp_0, E_jp_0, E_jz_0, E_kk, E_l2_0, E_l2i_0, E_l2n_0, E_lcmp_0, E_ldI_a, E_ldI_b, E_ldL_a, E_ldL_b, E_ldR_a, E_ldR_b, E_rI_0, E_stI_0, E_stL_0, aL_41, aL_43, aL_73, am_cc, am_nl, am_ok, am_pop, am_rt, am_set, cC_12, cC_41, cC_43, cC_73, rR_1308, rR_1310, rR_1358, kX12_busy, kX12_busy_0, kX12_busy_1]
  refine c_blockedM hd ok hH hw ?_
  simp only [am_run_s, bt, lf, am_in, am_ar, am_fit, am_ld, am_ct, Nat.reduceLT, Nat.reduceEqDiff, reduceIte, Nat.reduceAdd, Nat.reduceLeDiff, Nat.reduceSub, Bool.false_eq_true, if_true, if_false, ite_true, ite_false, List.length_cons, List.length_nil, Nat.zero_add, Nat.add_zero, and_true, true_and, true_or, or_true, and_self, Nat.le_refl, Nat.lt_irrefl, gI_sI, gL_sL, gQ_sQ, gI_sJ, gI_sL, gI_sQ, gL_sI, gL_sQ, gL_sJ, gQ_sI, gQ_sL, gQ_sJ, gN_sI, gN_sL, gN_sQ, gN_sJ, E_bald_0, E_cV_a, E_cV_b, E_c_0, E_getI_0, E_getR_0, E_i2l_0, E_iald_0, E_inc_a, E_inc_b, E_je_0, E_jl_0, E_jmp_0, E_jp_0, E_jz_0, E_kk, E_l2_0, E_l2i_0, E_l2n_0, E_lcmp_0, E_ldI_a, E_ldI_b, E_ldL_a, E_ldL_b, E_ldR_a, E_ldR_b, E_rI_0, E_stI_0, E_stL_0, aL_41, aL_43, aL_73, am_cc, am_nl, am_ok, am_pop, am_rt, am_set, cC_12, cC_41, cC_43, cC_73, rR_1308, rR_1310, rR_1358, kX12_busy, kX12_busy_0, kX12_busy_1]
  have h40 := fBz_1 ok H hw 1
  exact loop_busy hd ok hH hw h0 hQ 30000 1 _ _ (by omega) (by omega) (by omega) (by omega) (fun w h1 _ => h1)
