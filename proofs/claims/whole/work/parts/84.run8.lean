/-! ===== the run: the reference: disturbed ticks that are over ===== -/
def fgN (d : Nat → Int32) (t : Int32) : Nat → Nat × (Nat → Int32)
  | 0 => (0, d)
  | k + 1 => if d k < t then fgN d t k else ((fgN d t k).1 + 1, fun i => if i = (fgN d t k).1 then d k else (fgN d t k).2 i)
theorem fgN_s (d : Nat → Int32) (t : Int32) (k : Nat) : fgN d t (k + 1) = if d k < t then fgN d t k else ((fgN d t k).1 + 1, fun i => if i = (fgN d t k).1 then d k else (fgN d t k).2 i) := rfl
theorem fgN_h (d : Nat → Int32) (t : Int32) : ∀ k, (fgN d t k).1 ≤ k ∧ ∀ i, (fgN d t k).1 ≤ i → (fgN d t k).2 i = d i
  | 0 => ⟨Nat.le_refl _, fun _ _ => rfl⟩
  | k + 1 => by
    obtain ⟨h1, h2⟩ := fgN_h d t k
    rw [fgN_s]
    by_cases q : d k < t
    · rw [if_pos q]; exact ⟨by omega, h2⟩
    · rw [if_neg q]
      refine ⟨by show (fgN d t k).1 + 1 ≤ k + 1; omega, fun i hi => ?_⟩
      have hi : (fgN d t k).1 + 1 ≤ i := hi
      show (if i = (fgN d t k).1 then d k else (fgN d t k).2 i) = d i
      rw [if_neg (by omega)]
      exact h2 i (by omega)
def PDI (f : Nat) : Bool := Nat.beq f 54
theorem l_forget {σ0 : HS} {c : Nat} (hc : c ≤ 60) (hcc : gI σ0 1352 0 = nI c) {Q : PO} (hX : ∀ σ', frm PDI σ0 σ' → (∀ i, gI σ' 54 i = (fgN (gI σ0 54) (gI σ0 1342 0) c).2 i) → Q none (sI σ' 1352 0 (nI (fgN (gI σ0 54) (gI σ0 1342 0) c).1))) :
    ∀ (r k : Nat) (σ : HS), k + r = c → frm PDI σ0 σ → (∀ i, gI σ 54 i = (fgN (gI σ0 54) (gI σ0 1342 0) k).2 i) → am_T (kX12_forget S1) MM Q 4 [some rM, some (.inl (nI (fgN (gI σ0 54) (gI σ0 1342 0) k).1)), some (.inl (nI k))] [] σ 0 0 := by
  intro r
  induction r with
  | zero =>
    intro k σ hk f0 hd
    have e : k = c := by omega
    subst e
    have c1 : gI σ 1352 0 = nI k := by rw [f0.gi rfl]; exact hcc
    have h0 : ¬ nI k < nI k := nI_nlt (by omega) (by omega)
    rw [hX12_forget 8]
    simp only [am_run_s, bt, lf, am_in, am_ar, am_fit, am_ld, am_ct, Nat.reduceLT, Nat.reduceEqDiff, reduceIte, Nat.reduceAdd, Nat.reduceLeDiff, Nat.reduceSub, Bool.false_eq_true, if_true, if_false, ite_true, ite_false, List.length_cons, List.length_nil, Nat.zero_add, Nat.add_zero, and_true, true_and, true_or, or_true, and_self, Nat.le_refl, Nat.lt_irrefl, gI_sI, gL_sL, gQ_sQ, gI_sJ, gI_sL, gI_sQ, gL_sI, gL_sQ, gL_sJ, gQ_sI, gQ_sL, gQ_sJ, gN_sI, gN_sL, gN_sQ, gN_sJ, E_c_0, E_getI_0, E_getR_0, E_iald_0, E_iast_0, E_inc_a, E_inc_b, E_jl_0, E_jmp_0, E_ldI_a, E_ldI_b, E_ldR_a, E_ldR_b, E_putI_0, E_rV_0, E_stI_0, aL_54, am_nl, am_ok, am_set, cC_12, cC_54, rR_1351, kX12_forget, c1, h0]
    exact hX σ f0 hd
  | succ r ih =>
    intro k σ hk f0 hd
    obtain ⟨g1, g2⟩ := fgN_h (gI σ0 54) (gI σ0 1342 0) k
    have c1 : gI σ 1352 0 = nI c := by rw [f0.gi rfl]; exact hcc
    have c2 : gI σ 1342 0 = gI σ0 1342 0 := f0.gi rfl
    have c3 : gI σ 54 k = gI σ0 54 k := by rw [hd k, g2 k g1]
    have h2 := nI_t (show k < c by omega) (by omega)
    have h3 : vp_in (nI k) 60 := vp_in_nI (by omega) (by omega)
    have h4 : (nI k).toNatClampNeg = k := nI_clamp (by omega)
    have h5 : vp_in (nI (fgN (gI σ0 54) (gI σ0 1342 0) k).1) 60 := vp_in_nI (by omega) (by omega)
    have h6 : (nI (fgN (gI σ0 54) (gI σ0 1342 0) k).1).toNatClampNeg = (fgN (gI σ0 54) (gI σ0 1342 0) k).1 := nI_clamp (by omega)
    have es := fgN_s (gI σ0 54) (gI σ0 1342 0) k
    by_cases q : gI σ0 54 k < gI σ0 1342 0
    · rw [if_pos q] at es
      have go := ih (k + 1) σ (by omega) f0 (by rw [es]; exact hd)
      rw [es] at go
      rw [hX12_forget 14]
      simp only [am_run_s, bt, lf, am_in, am_ar, am_fit, am_ld, am_ct, Nat.reduceLT, Nat.reduceEqDiff, reduceIte, Nat.reduceAdd, Nat.reduceLeDiff, Nat.reduceSub, Bool.false_eq_true, if_true, if_false, ite_true, ite_false, List.length_cons, List.length_nil, Nat.zero_add, Nat.add_zero, and_true, true_and, true_or, or_true, and_self, Nat.le_refl, Nat.lt_irrefl, gI_sI, gL_sL, gQ_sQ, gI_sJ, gI_sL, gI_sQ, gL_sI, gL_sQ, gL_sJ, gQ_sI, gQ_sL, gQ_sJ, gN_sI, gN_sL, gN_sQ, gN_sJ, E_c_0, E_getI_0, E_getR_0, E_iald_0, E_iast_0, E_inc_a, E_inc_b, E_jl_0, E_jmp_0, E_ldI_a, E_ldI_b, E_ldR_a, E_ldR_b, E_putI_0, E_rV_0, E_stI_0, aL_54, am_nl, am_ok, am_set, cC_12, cC_54, rR_1351, kX12_forget, c1, h2, h3, h4, c2, c3, q, nI_1]
      exact go
    · rw [if_neg q] at es
      have go := ih (k + 1) (sI σ 54 (fgN (gI σ0 54) (gI σ0 1342 0) k).1 (gI σ0 54 k)) (by omega) (f0.si rfl) (fun i => by
        rw [es]
        simp only [gI_sI, gL_sL, gQ_sQ, gI_sJ, gI_sL, gI_sQ, gL_sI, gL_sQ, gL_sJ, gQ_sI, gQ_sL, gQ_sJ, gN_sI, gN_sL, gN_sQ, gN_sJ, Nat.reduceLT, Nat.reduceEqDiff, reduceIte, Nat.reduceAdd, Nat.reduceLeDiff, Nat.reduceSub, Bool.false_eq_true, if_true, if_false, ite_true, ite_false, List.length_cons, List.length_nil, Nat.zero_add, Nat.add_zero, and_true, true_and, true_or, or_true, and_self, Nat.le_refl, Nat.lt_irrefl]
        by_cases e : i = (fgN (gI σ0 54) (gI σ0 1342 0) k).1
        · rw [if_pos e, if_pos e]
        · rw [if_neg e, if_neg e]; exact hd i)
      rw [es] at go
      rw [hX12_forget 21]
      simp only [am_run_s, bt, lf, am_in, am_ar, am_fit, am_ld, am_ct, Nat.reduceLT, Nat.reduceEqDiff, reduceIte, Nat.reduceAdd, Nat.reduceLeDiff, Nat.reduceSub, Bool.false_eq_true, if_true, if_false, ite_true, ite_false, List.length_cons, List.length_nil, Nat.zero_add, Nat.add_zero, and_true, true_and, true_or, or_true, and_self, Nat.le_refl, Nat.lt_irrefl, gI_sI, gL_sL, gQ_sQ, gI_sJ, gI_sL, gI_sQ, gL_sI, gL_sQ, gL_sJ, gQ_sI, gQ_sL, gQ_sJ, gN_sI, gN_sL, gN_sQ, gN_sJ, E_c_0, E_getI_0, E_getR_0, E_iald_0, E_iast_0, E_inc_a, E_inc_b, E_jl_0, E_jmp_0, E_ldI_a, E_ldI_b, E_ldR_a, E_ldR_b, E_putI_0, E_rV_0, E_stI_0, aL_54, am_nl, am_ok, am_set, cC_12, cC_54, rR_1351, kX12_forget, c1, h2, h3, h4, h5, h6, c2, c3, q, nI_1]
      exact go
def fgM (m : HS) (c : Nat) : HS := sI (sJ m 54 (fgN (gI m 54) (gI m 1342 0) c).2) 1352 0 (nI (fgN (gI m 54) (gI m 1342 0) c).1)
theorem r_forget {m : HS} {c : Nat} (hc : c ≤ 60) (hcc : gI m 1352 0 = nI c) : Rg 179 [] m (fgM m c) := by
  intro σ Q hm hQ
  have ed : gI σ 54 = gI m 54 := funext (fun i => hm.gi rfl)
  have et : gI σ 1342 0 = gI m 1342 0 := hm.gi rfl
  rw [eX12_forget 4]
  simp only [am_run_s, bt, lf, am_in, am_ar, am_fit, am_ld, am_ct, Nat.reduceLT, Nat.reduceEqDiff, reduceIte, Nat.reduceAdd, Nat.reduceLeDiff, Nat.reduceSub, Bool.false_eq_true, if_true, if_false, ite_true, ite_false, List.length_cons, List.length_nil, Nat.zero_add, Nat.add_zero, and_true, true_and, true_or, or_true, and_self, Nat.le_refl, Nat.lt_irrefl, gI_sI, gL_sL, gQ_sQ, gI_sJ, gI_sL, gI_sQ, gL_sI, gL_sQ, gL_sJ, gQ_sI, gQ_sL, gQ_sJ, gN_sI, gN_sL, gN_sQ, gN_sJ, E_c_0, E_getI_0, E_getR_0, E_iald_0, E_iast_0, E_inc_a, E_inc_b, E_jl_0, E_jmp_0, E_ldI_a, E_ldI_b, E_ldR_a, E_ldR_b, E_putI_0, E_rV_0, E_stI_0, aL_54, am_nl, am_ok, am_set, cC_12, cC_54, rR_1351, kX12_forget]
  refine l_forget (σ0 := σ) hc (by rw [hm.gi rfl]; exact hcc) (fun σ1 f1 d1 => ?_) c 0 σ (by omega) frm.rf (fun i => rfl)
  rw [ed, et] at d1 ⊢
  have m1 : AgM σ1 (sJ m 54 (fgN (gI m 54) (gI m 1342 0) c).2) := by
    refine hm.sj (fun f' i e => f1.gi ?_) d1 (fun i => f1.gl _ _)
    unfold PDI
    cases z : Nat.beq f' 54 with
    | false => rfl
    | true => exact absurd (Nat.eq_of_beq_eq_true z) e
  have fr : frm PMA σ σ1 := f1.mo (fun f hf => by
    unfold PDI
    cases z : Nat.beq f 54 with
    | false => rfl
    | true =>
      have z := Nat.eq_of_beq_eq_true z
      subst z
      revert hf; decide)
  exact hQ _ (m1.si _ _ _) (fr.si rfl)
