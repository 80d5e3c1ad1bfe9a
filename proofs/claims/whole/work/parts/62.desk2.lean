/-! ===== the desk: the class ===== -/
def DX (σ : HS) (d : DC) : Prop := gN σ 10 = d.1 ∧ gI σ 703 0 = nI d.1 ∧ (∀ k, k < d.1 → gQ σ 91 k = some (10, k) ∧ gI σ 1100 k = nI k ∧ cI (gI σ 1104 k) (gI σ 1102 k) = nI (d.2.1 k) ∧ gI σ 1105 k = nI (d.2.2.1 k) ∧ gI σ 1107 k = nI (d.2.2.2.1 k)) ∧ gI σ 107 0 = nI d.2.2.2.2
def HX (σ : HS) (H : Nat → Bool) (n : Nat) : Prop := ∀ k, k < n → gI σ 70 k = bb (H k)
def PWG (f : Nat) : Bool := Nat.beq f 108 || Nat.beq f 109 || Nat.beq f 22
theorem DX.fx {σ σ' : HS} {d : DC} {P : Nat → Bool} (h : DX σ d) (f : frm P σ σ') (h1 : P 703 = false) (h2 : P 1100 = false) (h3 : P 1104 = false) (h4 : P 1102 = false) (h5 : P 1105 = false) (h6 : P 1107 = false) (h7 : P 107 = false) : DX σ' d := by
  refine ⟨by rw [f.gn]; exact h.1, by rw [f.gi h1]; exact h.2.1, fun k hk => ?_, by rw [f.gi h7]; exact h.2.2.2⟩
  rw [f.gq, f.gi h2, f.gi h3, f.gi h4, f.gi h5, f.gi h6]
  exact h.2.2.1 k hk
theorem nI_gt0 {n : Nat} (h : 0 < n) (h2 : n < 2147483648) : 0 < nI n := (nI_lt (a := 0) h (by omega) : nI 0 < nI n)
theorem s_places {σ : HS} {d : DC} (hd : DX σ d) (ok : DOK d) {k x : Nat} (hk : k < d.1) (hx : x ≤ 30000) (Q : PO) : MM 7 [.inr (.inr (some (0, 0))), .inl (nI x), .inr (.inr (some (10, k)))] σ Q ↔ Q (some (.inl (nI (plc d x k)))) σ := by
  obtain ⟨-, -, -, c4, c5⟩ := hd.2.2.1 k hk
  have t := ok.2.2.1 k hk
  have j := ok.2.2.2.1 k hk
  have hk' : k < gN σ 10 := by rw [hd.1]; exact hk
  have h0 := nI_gt0 (n := d.2.2.1 k) (by omega) (by omega)
  have h1 : ¬ nI (d.2.2.1 k) = 0 := nI_ne0 (by omega) (by omega)
  have h2 : (nI x + nI (d.2.2.2.1 k) + nI (d.2.2.1 k)) / nI (d.2.2.1 k) = nI (plc d x k) := by
    rw [nI_add, nI_add, pk_div (by omega) (by omega) (by omega)]; rfl
  rw [eX0_placesIn 14]
  simp only [am_run_s, bt, lf, am_in, am_ar, am_fit, am_ld, am_ct, Nat.reduceLT, Nat.reduceEqDiff, reduceIte, Nat.reduceAdd, Nat.reduceLeDiff, Nat.reduceSub, Bool.false_eq_true, if_true, if_false, ite_true, ite_false, List.length_cons, List.length_nil, Nat.zero_add, Nat.add_zero, and_true, true_and, true_or, or_true, and_self, Nat.le_refl, Nat.lt_irrefl, gI_sI, gL_sL, gQ_sQ, gI_sJ, gI_sL, gI_sQ, gL_sI, gL_sQ, gL_sJ, gQ_sI, gQ_sL, gQ_sJ, gN_sI, gN_sL, gN_sQ, gN_sJ, E_b2_0, E_b2n_0, E_c_0, E_getI_0, E_jmp_0, E_jp_0, E_ldI_a, E_ldI_b, E_ldR_a, E_ldR_b, E_rI_0, cC_10, kX0_placesIn, hk', c4, c5, h0, h1, h2, not_false_eq_true]
theorem s_faultsIn {σ : HS} {d : DC} (hd : DX σ d) (ok : DOK d) {H : Nat → Bool} {wd x : Nat} (hw : wd < d.1) (hx : x ≤ 30000) (hc : gI σ 109 0 = nI (18 + bG d H wd d.1)) (Q : PO) : MM 8 [.inr (.inr (some (0, 0))), .inl (nI x)] σ Q ↔ Q (some (.inl (nI (flt d H wd x)))) σ := by
  have he := hd.2.2.2
  rw [eX0_faultsIn 18]
  by_cases q : d.2.2.2.2 = 0
  · have h1 : nI d.2.2.2.2 = 0 := by rw [q]; decide
    have h2 : nI (flt d H wd x) = 0 := by unfold flt; rw [if_pos q]; decide
    simp only [am_run_s, bt, lf, am_in, am_ar, am_fit, am_ld, am_ct, Nat.reduceLT, Nat.reduceEqDiff, reduceIte, Nat.reduceAdd, Nat.reduceLeDiff, Nat.reduceSub, Bool.false_eq_true, if_true, if_false, ite_true, ite_false, List.length_cons, List.length_nil, Nat.zero_add, Nat.add_zero, and_true, true_and, true_or, or_true, and_self, Nat.le_refl, Nat.lt_irrefl, gI_sI, gL_sL, gQ_sQ, gI_sJ, gI_sL, gI_sQ, gL_sI, gL_sQ, gL_sJ, gQ_sI, gQ_sL, gQ_sJ, gN_sI, gN_sL, gN_sQ, gN_sJ, E_b2_0, E_cS_a, E_cS_b, E_c_0, E_getI_0, E_jmp_0, E_jz_0, E_kk, E_ldI_a, E_ldI_b, E_ldR_a, E_ldR_b, E_rI_0, am_cc, am_pop, am_rt, cC_0, kX0_faultsIn, he, h1, h2]
  · have e2 := ok.2.2.2.2.2
    have h1 : ¬ nI d.2.2.2.2 = 0 := nI_ne0 (by omega) (by omega)
    have h0 := nI_gt0 (n := d.2.2.2.2) (by omega) (by omega)
    have h2 : (nI x + nI d.2.2.2.2) / nI d.2.2.2.2 * nI (18 + bG d H wd d.1) = nI (flt d H wd x) := by
      rw [nI_add, pk_div (by omega) (by omega) (by omega), pk_mul]
      unfold flt; rw [if_neg q]
    simp only [am_run_s, bt, lf, am_in, am_ar, am_fit, am_ld, am_ct, Nat.reduceLT, Nat.reduceEqDiff, reduceIte, Nat.reduceAdd, Nat.reduceLeDiff, Nat.reduceSub, Bool.false_eq_true, if_true, if_false, ite_true, ite_false, List.length_cons, List.length_nil, Nat.zero_add, Nat.add_zero, and_true, true_and, true_or, or_true, and_self, Nat.le_refl, Nat.lt_irrefl, gI_sI, gL_sL, gQ_sQ, gI_sJ, gI_sL, gI_sQ, gL_sI, gL_sQ, gL_sJ, gQ_sI, gQ_sL, gQ_sJ, gN_sI, gN_sL, gN_sQ, gN_sJ, E_b2_0, E_cS_a, E_cS_b, E_c_0, E_getI_0, E_jmp_0, E_jz_0, E_kk, E_ldI_a, E_ldI_b, E_ldR_a, E_ldR_b, E_rI_0, am_cc, am_pop, am_rt, cC_0, kX0_faultsIn, he, hc, h1, ↓s_quotI _ _ h0 h1, h2]
theorem bb_0 (c : Bool) : (bb c = 0) = (c = false) := by cases c <;> simp [bb]
theorem l_higherIn {σ : HS} {d : DC} (hd : DX σ d) (ok : DOK d) {H : Nat → Bool} (hH : HX σ H d.1) (hC : ∀ k, k < d.1 → gI σ 22 k = nI (d.2.1 k)) {x : Nat} (hx : x ≤ 30000) {Q : PO} (hQ : Q (some (.inl (nI (hsm d H x d.1)))) σ) : ∀ (r i : Nat), i + r = d.1 → am_T (kX0_higherIn S1) MM Q 4 [some (.inr (.inr (some (0, 0)))), some (.inl (nI x)), some (.inl (nI (hsm d H x i))), some (.inl (nI i))] [] σ 0 0 := by
  have h24 := ok.1
  intro r
  induction r with
  | zero =>
    intro i hi
    have e : i = d.1 := by omega
    subst e
    rw [hX0_higherIn 8]
    have h0 : ¬ nI d.1 < nI d.1 := nI_nlt (by omega) (by omega)
    simp only [am_run_s, bt, lf, am_in, am_ar, am_fit, am_ld, am_ct, Nat.reduceLT, Nat.reduceEqDiff, reduceIte, Nat.reduceAdd, Nat.reduceLeDiff, Nat.reduceSub, Bool.false_eq_true, if_true, if_false, ite_true, ite_false, List.length_cons, List.length_nil, Nat.zero_add, Nat.add_zero, and_true, true_and, true_or, or_true, and_self, Nat.le_refl, Nat.lt_irrefl, gI_sI, gL_sL, gQ_sQ, gI_sJ, gI_sL, gI_sQ, gL_sI, gL_sQ, gL_sJ, gQ_sI, gQ_sL, gQ_sJ, gN_sI, gN_sL, gN_sQ, gN_sJ, E_aald_0, E_b2_0, E_bald_0, E_cV_a, E_cV_b, E_c_0, E_getI_0, E_getR_0, E_iald_0, E_inc_a, E_inc_b, E_jl_0, E_jmp_0, E_jz_0, E_kk, E_ldI_a, E_ldI_b, E_ldR_a, E_ldR_b, E_rI_0, E_stI_0, aL_22, aL_70, aL_91, am_cc, am_nl, am_ok, am_pop, am_rt, am_set, cC_0, cC_22, cC_6, cC_70, cC_91, rQ_91, rR_100, rR_101, rR_103, rR_701, sN_91, kX0_higherIn, hd.2.1, h0]
    exact hQ
  | succ r ih =>
    intro i hi
    have hk : i < d.1 := by omega
    rw [hX0_higherIn 27]
    have h2 := nI_t hk (by omega)
    have h3 : vp_in (nI i) 24 := vp_in_nI (by omega) (by omega)
    have h4 : (nI i).toNatClampNeg = i := nI_clamp (by omega)
    have hb := hH i hk
    have hq := (hd.2.2.1 i hk).1
    have hg : i < gN σ 10 := by rw [hd.1]; exact hk
    have := ih (i + 1) (by omega)
    unfold hsm at this
    rw [dsum_s] at this
    cases e : H i with
    | false =>
      have e0 : (bb (H i) = 0) = True := by rw [bb_0, e]; simp
      rw [e, if_neg (by decide), Nat.add_zero] at this
      simp only [am_run_s, bt, lf, am_in, am_ar, am_fit, am_ld, am_ct, Nat.reduceLT, Nat.reduceEqDiff, reduceIte, Nat.reduceAdd, Nat.reduceLeDiff, Nat.reduceSub, Bool.false_eq_true, if_true, if_false, ite_true, ite_false, List.length_cons, List.length_nil, Nat.zero_add, Nat.add_zero, and_true, true_and, true_or, or_true, and_self, Nat.le_refl, Nat.lt_irrefl, gI_sI, gL_sL, gQ_sQ, gI_sJ, gI_sL, gI_sQ, gL_sI, gL_sQ, gL_sJ, gQ_sI, gQ_sL, gQ_sJ, gN_sI, gN_sL, gN_sQ, gN_sJ, E_aald_0, E_b2_0, E_bald_0, E_cV_a, E_cV_b, E_c_0, E_getI_0, E_getR_0, E_iald_0, E_inc_a, E_inc_b, E_jl_0, E_jmp_0, E_jz_0, E_kk, E_ldI_a, E_ldI_b, E_ldR_a, E_ldR_b, E_rI_0, E_stI_0, aL_22, aL_70, aL_91, am_cc, am_nl, am_ok, am_pop, am_rt, am_set, cC_0, cC_22, cC_6, cC_70, cC_91, rQ_91, rR_100, rR_101, rR_103, rR_701, sN_91, kX0_higherIn, hd.2.1, h2, h3, h4, hb, e0, nI_1]
      exact this
    | true =>
      have e0 : (bb (H i) = 0) = False := by rw [bb_0, e]; simp
      rw [e, if_pos rfl, ← nI_add, ← pk_mul] at this
      simp only [am_run_s, bt, lf, am_in, am_ar, am_fit, am_ld, am_ct, Nat.reduceLT, Nat.reduceEqDiff, reduceIte, Nat.reduceAdd, Nat.reduceLeDiff, Nat.reduceSub, Bool.false_eq_true, if_true, if_false, ite_true, ite_false, List.length_cons, List.length_nil, Nat.zero_add, Nat.add_zero, and_true, true_and, true_or, or_true, and_self, Nat.le_refl, Nat.lt_irrefl, gI_sI, gL_sL, gQ_sQ, gI_sJ, gI_sL, gI_sQ, gL_sI, gL_sQ, gL_sJ, gQ_sI, gQ_sL, gQ_sJ, gN_sI, gN_sL, gN_sQ, gN_sJ, E_aald_0, E_b2_0, E_bald_0, E_cV_a, E_cV_b, E_c_0, E_getI_0, E_getR_0, E_iald_0, E_inc_a, E_inc_b, E_jl_0, E_jmp_0, E_jz_0, E_kk, E_ldI_a, E_ldI_b, E_ldR_a, E_ldR_b, E_rI_0, E_stI_0, aL_22, aL_70, aL_91, am_cc, am_nl, am_ok, am_pop, am_rt, am_set, cC_0, cC_22, cC_6, cC_70, cC_91, rQ_91, rR_100, rR_101, rR_103, rR_701, sN_91, kX0_higherIn, hd.2.1, h2, h3, h4, hb, e0, hq, hg, cC_10, hC i hk, ↓s_places hd ok hk hx, nI_1]
      exact this
theorem c_higherIn {σ : HS} {d : DC} (hd : DX σ d) (ok : DOK d) {H : Nat → Bool} (hH : HX σ H d.1) (hC : ∀ k, k < d.1 → gI σ 22 k = nI (d.2.1 k)) {x : Nat} (hx : x ≤ 30000) {Q : PO} (hQ : Q (some (.inl (nI (hsm d H x d.1)))) σ) : MM 9 [.inr (.inr (some (0, 0))), .inl (nI x)] σ Q := by
  rw [eX0_higherIn 6]
  simp only [am_run_s, bt, lf, am_in, am_ar, am_fit, am_ld, am_ct, Nat.reduceLT, Nat.reduceEqDiff, reduceIte, Nat.reduceAdd, Nat.reduceLeDiff, Nat.reduceSub, Bool.false_eq_true, if_true, if_false, ite_true, ite_false, List.length_cons, List.length_nil, Nat.zero_add, Nat.add_zero, and_true, true_and, true_or, or_true, and_self, Nat.le_refl, Nat.lt_irrefl, gI_sI, gL_sL, gQ_sQ, gI_sJ, gI_sL, gI_sQ, gL_sI, gL_sQ, gL_sJ, gQ_sI, gQ_sL, gQ_sJ, gN_sI, gN_sL, gN_sQ, gN_sJ, E_aald_0, E_b2_0, E_bald_0, E_cV_a, E_cV_b, E_c_0, E_getI_0, E_getR_0, E_iald_0, E_inc_a, E_inc_b, E_jl_0, E_jmp_0, E_jz_0, E_kk, E_ldI_a, E_ldI_b, E_ldR_a, E_ldR_b, E_rI_0, E_stI_0, aL_22, aL_70, aL_91, am_cc, am_nl, am_ok, am_pop, am_rt, am_set, cC_0, cC_22, cC_6, cC_70, cC_91, rQ_91, rR_100, rR_101, rR_103, rR_701, sN_91, kX0_higherIn]
  exact l_higherIn hd ok hH hC hx hQ d.1 0 (by omega)
