/-! ===== give: sorted; the class ===== -/
theorem cntP_st {P R : Nat → Prop} {dP : ∀ i, Decidable (P i)} {dR : ∀ i, Decidable (R i)} : ∀ {n : Nat}, (∀ i, i < n → P i → R i) → cntP P dP n ≤ cntP R dR n
  | 0, _ => Nat.le_refl _
  | n + 1, h => by
    have h1 := cntP_st (P := P) (R := R) (dP := dP) (dR := dR) (n := n) (fun i hi => h i (by omega))
    rw [cntP_s, cntP_s]
    by_cases q : P n
    · rw [if_pos q, if_pos (h n (by omega) q)]; omega
    · rw [if_neg q]; omega
theorem cntP_ss {P R : Nat → Prop} {dP : ∀ i, Decidable (P i)} {dR : ∀ i, Decidable (R i)} {x : Nat} : ∀ {n : Nat}, x < n → (∀ i, i < n → P i → R i) → R x → ¬ P x → cntP P dP n < cntP R dR n
  | 0, hx, _, _, _ => absurd hx (by omega)
  | n + 1, hx, h, h1, h2 => by
    rw [cntP_s, cntP_s]
    by_cases q : x = n
    · subst q
      have h3 := cntP_st (P := P) (R := R) (dP := dP) (dR := dR) (n := x) (fun i hi => h i (by omega))
      rw [if_neg h2, if_pos h1]; omega
    · have h3 := cntP_ss (P := P) (R := R) (dP := dP) (dR := dR) (x := x) (n := n) (by omega) (fun i hi => h i (by omega)) h1 h2
      by_cases q2 : P n
      · rw [if_pos q2, if_pos (h n (by omega) q2)]; omega
      · rw [if_neg q2]; omega
theorem cntP_n {P : Nat → Prop} {dP : ∀ i, Decidable (P i)} {x n : Nat} (hx : x < n) (h : ¬ P x) : cntP P dP n < n := by
  have h1 := cntP_ss (P := P) (R := fun _ => True) (dP := dP) (dR := fun _ => inferInstance) hx (fun _ _ _ => trivial) trivial h
  have h2 := cntP_le (p := fun _ => True) (d := fun _ => inferInstance) n
  omega
/-- how many have a key below x -/
def cK (rk : Nat → Int32) (n : Nat) (x : Int32) : Nat := cntP (fun k => kI (rk k) < x) (fun _ => inferInstance) n
def SRT (n : Nat) (rk R : Nat → Int32) : Prop := (∀ a b, a < b → b < n → kI (R a) < kI (R b)) ∧ (∀ i, i < n → ∃ a, a < n ∧ R a = rk i) ∧ (∀ a, a < n → ∃ i, i < n ∧ R a = rk i) ∧ ∀ x, cK R n x = cK rk n x
theorem i32_as {x y : Int32} (h : x < y) : ¬ y < x := by
  rw [Int32.lt_iff_toInt_lt] at *; omega
theorem SRT.at {n : Nat} {rk R : Nat → Int32} (h : SRT n rk R) {a i : Nat} (ha : a < n) (e : R a = rk i) : cK rk n (kI (rk i)) = a := by
  rw [← h.2.2.2, ← e]
  unfold cK
  refine cntP_lt (fun b hb => ⟨fun z => ?_, fun z => h.1 b a z ha⟩) (by omega)
  rcases Nat.lt_or_ge b a with q | q
  · exact q
  · exfalso
    by_cases e2 : b = a
    · rw [e2] at z; exact i32_irr _ z
    · exact i32_as z (h.1 a b (by omega) hb)
def keyD (n : Nat) (rk : Nat → Int32) : Prop := ∀ i j, i < n → j < n → i ≠ j → kI (rk i) ≠ kI (rk j)
theorem Inv.kd {k : Nat} {σ : HS} (h : Inv k σ) : keyD (gN σ 10) (gI σ 38) := by
  intro i j hi hj hij e
  obtain ⟨-, r, r1, r2⟩ := h.2.1.2.2.1.1 i hi
  obtain ⟨-, s, s1, s2⟩ := h.2.1.2.2.1.1 j hj
  rw [r1, s1, kI_val r2, kI_val s2] at e
  have b1 := kN_bd r2
  have b2 := kN_bd s2
  have := kN_inj ((nI_eq (by omega) (by omega)).mp e)
  exact h.2.1.2.2.1.2 i j hi hj hij (by rw [r1, s1, this])
theorem cK_lt {n : Nat} {rk : Nat → Int32} {i : Nat} (hi : i < n) : cK rk n (kI (rk i)) < n := cntP_n hi (i32_irr _)
theorem cK_ne {n : Nat} {rk : Nat → Int32} (hd : keyD n rk) {i j : Nat} (hi : i < n) (hj : j < n) (hij : i ≠ j) : cK rk n (kI (rk i)) ≠ cK rk n (kI (rk j)) := by
  have key : ∀ i j, i < n → j < n → kI (rk i) < kI (rk j) → cK rk n (kI (rk i)) < cK rk n (kI (rk j)) := by
    intro i j hi hj q
    refine cntP_ss hi (fun k _ z => ?_) q (i32_irr _)
    rw [Int32.lt_iff_toInt_lt] at z q ⊢
    omega
  have hne := hd i j hi hj hij
  rcases Int.lt_trichotomy (kI (rk i)).toInt (kI (rk j)).toInt with z | z | z
  · have := key i j hi hj (by rw [Int32.lt_iff_toInt_lt]; exact z); omega
  · exact absurd (Int32.toInt_inj.mp z) hne
  · have := key j i hj hi (by rw [Int32.lt_iff_toInt_lt]; exact z); omega
def PSR (f : Nat) : Bool := Nat.beq f 24
theorem l_sort2 {kk : Nat} {σ0 : HS} (h : Inv kk σ0) {i : Nat} (hi : i < gN σ0 10) {Q : PO} {σ : HS} (f0 : frm PSR σ0 σ) : ∀ (r j : Nat), j + r = gN σ0 10 → am_T (kX0_sortRanks S1) MM Q 61 [some (.inr (.inr (some (0, 0)))), some (.inl (nI i)), some (.inl (nI (cK (gI σ0 38) (gN σ0 10) (kI (gI σ0 38 i))))), some (.inl (nI (gN σ0 10)))] [] σ 0 0 →
    am_T (kX0_sortRanks S1) MM Q 17 [some (.inr (.inr (some (0, 0)))), some (.inl (nI i)), some (.inl (nI (cK (gI σ0 38) j (kI (gI σ0 38 i))))), some (.inl (nI j))] [] σ 0 0 := by
  obtain ⟨hw1, hw2, h24⟩ := h.wc
  have c1 : gI σ 703 0 = nI (gN σ0 10) := by rw [f0.gi rfl]; exact hw1
  intro r
  induction r with
  | zero =>
    intro j hj hX
    have e : j = gN σ0 10 := by omega
    subst e
    rw [hX0_sortRanks 4]
    have h0 : ¬ nI (gN σ0 10) < nI (gN σ0 10) := nI_nlt (by omega) (by omega)
    simp only [am_run_s, bt, lf, am_in, am_ar, am_fit, am_ld, am_ct, Nat.reduceLT, Nat.reduceEqDiff, reduceIte, Nat.reduceAdd, Nat.reduceLeDiff, Nat.reduceSub, Bool.false_eq_true, if_true, if_false, ite_true, ite_false, List.length_cons, List.length_nil, Nat.zero_add, Nat.add_zero, and_true, true_and, true_or, or_true, and_self, Nat.le_refl, Nat.lt_irrefl, gI_sI, gL_sL, gQ_sQ, gI_sJ, gI_sL, gI_sQ, gL_sI, gL_sQ, gL_sJ, gQ_sI, gQ_sL, gQ_sJ, gN_sI, gN_sL, gN_sQ, gN_sJ, E_aald_0, E_cV_a, E_cV_b, E_c_0, E_getI_0, E_getR_0, E_iast_0, E_inc_a, E_inc_b, E_jl_0, E_jmp_0, E_jz_0, E_kk, E_ldI_a, E_ldI_b, E_ldR_a, E_ldR_b, E_rV_0, E_stI_0, aL_24, aL_91, am_cc, am_nl, am_ok, am_pop, am_rt, am_set, cC_0, cC_10, cC_24, cC_6, cC_91, rQ_91, rR_100, rR_105, rR_701, sN_91, kX0_sortRanks, am_run_z, c1, h0]
    exact hX
  | succ r ih =>
    intro j hj hX
    have hk : j < gN σ0 10 := by omega
    have h2 := nI_t hk (by omega)
    have h3 : vp_in (nI j) 24 := vp_in_nI (by omega) (by omega)
    have h4 : (nI j).toNatClampNeg = j := nI_clamp (by omega)
    have h5 : vp_in (nI i) 24 := vp_in_nI (by omega) (by omega)
    have h6 : (nI i).toNatClampNeg = i := nI_clamp (by omega)
    have q1 : gQ σ 91 j = some (10, j) := by rw [f0.gq]; exact (h.2.1.1 j hk).1
    have q2 : gQ σ 91 i = some (10, i) := by rw [f0.gq]; exact (h.2.1.1 i hi).1
    have g1 : j < gN σ 10 := by rw [f0.gn]; exact hk
    have g2 : i < gN σ 10 := by rw [f0.gn]; exact hi
    have k1 : kX (gI σ 1102 j) = kI (gI σ0 38 j) := by rw [f0.gi rfl]; exact h.key hk
    have k2 : kX (gI σ 1102 i) = kI (gI σ0 38 i) := by rw [f0.gi rfl]; exact h.key hi
    have go := ih (j + 1) (by omega) hX
    have ec : cK (gI σ0 38) (j + 1) (kI (gI σ0 38 i)) = cK (gI σ0 38) j (kI (gI σ0 38 i)) + if kI (gI σ0 38 j) < kI (gI σ0 38 i) then 1 else 0 := rfl
    rw [ec] at go
    rw [hX0_sortRanks 19]
    by_cases q : kI (gI σ0 38 j) < kI (gI σ0 38 i)
    · rw [if_pos q] at go
      simp only [am_run_s, bt, lf, am_in, am_ar, am_fit, am_ld, am_ct, Nat.reduceLT, Nat.reduceEqDiff, reduceIte, Nat.reduceAdd, Nat.reduceLeDiff, Nat.reduceSub, Bool.false_eq_true, if_true, if_false, ite_true, ite_false, List.length_cons, List.length_nil, Nat.zero_add, Nat.add_zero, and_true, true_and, true_or, or_true, and_self, Nat.le_refl, Nat.lt_irrefl, gI_sI, gL_sL, gQ_sQ, gI_sJ, gI_sL, gI_sQ, gL_sI, gL_sQ, gL_sJ, gQ_sI, gQ_sL, gQ_sJ, gN_sI, gN_sL, gN_sQ, gN_sJ, E_aald_0, E_cV_a, E_cV_b, E_c_0, E_getI_0, E_getR_0, E_iast_0, E_inc_a, E_inc_b, E_jl_0, E_jmp_0, E_jz_0, E_kk, E_ldI_a, E_ldI_b, E_ldR_a, E_ldR_b, E_rV_0, E_stI_0, aL_24, aL_91, am_cc, am_nl, am_ok, am_pop, am_rt, am_set, cC_0, cC_10, cC_24, cC_6, cC_91, rQ_91, rR_100, rR_105, rR_701, sN_91, kX0_sortRanks, c1, h2, h3, h4, h5, h6, q1, q2, g1, g2, cC_10, ↓s_goesAhead, bI_z, k1, k2, q, not_true_eq_false, nI_1]
      exact go
    · rw [if_neg q, Nat.add_zero] at go
      simp only [am_run_s, bt, lf, am_in, am_ar, am_fit, am_ld, am_ct, Nat.reduceLT, Nat.reduceEqDiff, reduceIte, Nat.reduceAdd, Nat.reduceLeDiff, Nat.reduceSub, Bool.false_eq_true, if_true, if_false, ite_true, ite_false, List.length_cons, List.length_nil, Nat.zero_add, Nat.add_zero, and_true, true_and, true_or, or_true, and_self, Nat.le_refl, Nat.lt_irrefl, gI_sI, gL_sL, gQ_sQ, gI_sJ, gI_sL, gI_sQ, gL_sI, gL_sQ, gL_sJ, gQ_sI, gQ_sL, gQ_sJ, gN_sI, gN_sL, gN_sQ, gN_sJ, E_aald_0, E_cV_a, E_cV_b, E_c_0, E_getI_0, E_getR_0, E_iast_0, E_inc_a, E_inc_b, E_jl_0, E_jmp_0, E_jz_0, E_kk, E_ldI_a, E_ldI_b, E_ldR_a, E_ldR_b, E_rV_0, E_stI_0, aL_24, aL_91, am_cc, am_nl, am_ok, am_pop, am_rt, am_set, cC_0, cC_10, cC_24, cC_6, cC_91, rQ_91, rR_100, rR_105, rR_701, sN_91, kX0_sortRanks, c1, h2, h3, h4, h5, h6, q1, q2, g1, g2, cC_10, ↓s_goesAhead, bI_z, k1, k2, q, not_false_eq_true, nI_1]
      exact go
theorem l_sort1 {kk : Nat} {σ0 : HS} (h : Inv kk σ0) {Q : PO} : ∀ (r i : Nat) (σ : HS) (o2 o3 : Option AV), i + r = gN σ0 10 → frm PSR σ0 σ → (∀ j, j < i → gI σ 24 (cK (gI σ0 38) (gN σ0 10) (kI (gI σ0 38 j))) = gI σ0 38 j) →
    (∀ σ', frm PSR σ0 σ' → (∀ j, j < gN σ0 10 → gI σ' 24 (cK (gI σ0 38) (gN σ0 10) (kI (gI σ0 38 j))) = gI σ0 38 j) → Q none σ') →
    am_T (kX0_sortRanks S1) MM Q 2 [some (.inr (.inr (some (0, 0)))), some (.inl (nI i)), o2, o3] [] σ 0 0 := by
  obtain ⟨hw1, hw2, h24⟩ := h.wc
  intro r
  induction r with
  | zero =>
    intro i σ o2 o3 hi f0 hR hQ
    have e : i = gN σ0 10 := by omega
    subst e
    have c1 : gI σ 703 0 = nI (gN σ0 10) := by rw [f0.gi rfl]; exact hw1
    rw [hX0_sortRanks 6]
    have h0 : ¬ nI (gN σ0 10) < nI (gN σ0 10) := nI_nlt (by omega) (by omega)
    simp only [am_run_s, bt, lf, am_in, am_ar, am_fit, am_ld, am_ct, Nat.reduceLT, Nat.reduceEqDiff, reduceIte, Nat.reduceAdd, Nat.reduceLeDiff, Nat.reduceSub, Bool.false_eq_true, if_true, if_false, ite_true, ite_false, List.length_cons, List.length_nil, Nat.zero_add, Nat.add_zero, and_true, true_and, true_or, or_true, and_self, Nat.le_refl, Nat.lt_irrefl, gI_sI, gL_sL, gQ_sQ, gI_sJ, gI_sL, gI_sQ, gL_sI, gL_sQ, gL_sJ, gQ_sI, gQ_sL, gQ_sJ, gN_sI, gN_sL, gN_sQ, gN_sJ, E_aald_0, E_cV_a, E_cV_b, E_c_0, E_getI_0, E_getR_0, E_iast_0, E_inc_a, E_inc_b, E_jl_0, E_jmp_0, E_jz_0, E_kk, E_ldI_a, E_ldI_b, E_ldR_a, E_ldR_b, E_rV_0, E_stI_0, aL_24, aL_91, am_cc, am_nl, am_ok, am_pop, am_rt, am_set, cC_0, cC_10, cC_24, cC_6, cC_91, rQ_91, rR_100, rR_105, rR_701, sN_91, kX0_sortRanks, c1, h0]
    exact hQ σ f0 hR
  | succ r ih =>
    intro i σ o2 o3 hi f0 hR hQ
    have hk : i < gN σ0 10 := by omega
    have c1 : gI σ 703 0 = nI (gN σ0 10) := by rw [f0.gi rfl]; exact hw1
    have h2 := nI_t hk (by omega)
    have h5 : vp_in (nI i) 24 := vp_in_nI (by omega) (by omega)
    have h6 : (nI i).toNatClampNeg = i := nI_clamp (by omega)
    have cl := cK_lt (rk := gI σ0 38) hk
    rw [hX0_sortRanks 9]
    simp only [am_run_s, bt, lf, am_in, am_ar, am_fit, am_ld, am_ct, Nat.reduceLT, Nat.reduceEqDiff, reduceIte, Nat.reduceAdd, Nat.reduceLeDiff, Nat.reduceSub, Bool.false_eq_true, if_true, if_false, ite_true, ite_false, List.length_cons, List.length_nil, Nat.zero_add, Nat.add_zero, and_true, true_and, true_or, or_true, and_self, Nat.le_refl, Nat.lt_irrefl, gI_sI, gL_sL, gQ_sQ, gI_sJ, gI_sL, gI_sQ, gL_sI, gL_sQ, gL_sJ, gQ_sI, gQ_sL, gQ_sJ, gN_sI, gN_sL, gN_sQ, gN_sJ, E_aald_0, E_cV_a, E_cV_b, E_c_0, E_getI_0, E_getR_0, E_iast_0, E_inc_a, E_inc_b, E_jl_0, E_jmp_0, E_jz_0, E_kk, E_ldI_a, E_ldI_b, E_ldR_a, E_ldR_b, E_rV_0, E_stI_0, aL_24, aL_91, am_cc, am_nl, am_ok, am_pop, am_rt, am_set, cC_0, cC_10, cC_24, cC_6, cC_91, rQ_91, rR_100, rR_105, rR_701, sN_91, kX0_sortRanks, c1, h2]
    refine l_sort2 h hk f0 (gN σ0 10) 0 (by omega) ?_
    have q2 : gQ σ 91 i = some (10, i) := by rw [f0.gq]; exact (h.2.1.1 i hk).1
    have g2 : i < gN σ 10 := by rw [f0.gn]; exact hk
    have rk : gI σ 1102 i = gI σ0 38 i := by rw [f0.gi rfl]; exact (h.2.1.2.2.1.1 i hk).1
    have e24 : nI (cK (gI σ0 38) (gN σ0 10) (kI (gI σ0 38 i))) < 24 := by
      rw [show (24 : Int32) = nI 24 by decide]; exact nI_lt (by omega) (by omega)
    have h3 : vp_in (nI (cK (gI σ0 38) (gN σ0 10) (kI (gI σ0 38 i)))) 24 := vp_in_nI (by omega) (by omega)
    have h4 : (nI (cK (gI σ0 38) (gN σ0 10) (kI (gI σ0 38 i)))).toNatClampNeg = cK (gI σ0 38) (gN σ0 10) (kI (gI σ0 38 i)) := nI_clamp (by omega)
    rw [hX0_sortRanks 15]
    simp only [am_run_s, bt, lf, am_in, am_ar, am_fit, am_ld, am_ct, Nat.reduceLT, Nat.reduceEqDiff, reduceIte, Nat.reduceAdd, Nat.reduceLeDiff, Nat.reduceSub, Bool.false_eq_true, if_true, if_false, ite_true, ite_false, List.length_cons, List.length_nil, Nat.zero_add, Nat.add_zero, and_true, true_and, true_or, or_true, and_self, Nat.le_refl, Nat.lt_irrefl, gI_sI, gL_sL, gQ_sQ, gI_sJ, gI_sL, gI_sQ, gL_sI, gL_sQ, gL_sJ, gQ_sI, gQ_sL, gQ_sJ, gN_sI, gN_sL, gN_sQ, gN_sJ, E_aald_0, E_cV_a, E_cV_b, E_c_0, E_getI_0, E_getR_0, E_iast_0, E_inc_a, E_inc_b, E_jl_0, E_jmp_0, E_jz_0, E_kk, E_ldI_a, E_ldI_b, E_ldR_a, E_ldR_b, E_rV_0, E_stI_0, aL_24, aL_91, am_cc, am_nl, am_ok, am_pop, am_rt, am_set, cC_0, cC_10, cC_24, cC_6, cC_91, rQ_91, rR_100, rR_105, rR_701, sN_91, kX0_sortRanks, e24, h3, h4, h5, h6, q2, g2, cC_10, rk, nI_1]
    refine ih (i + 1) _ _ _ (by omega) (f0.si rfl) (fun j hj => ?_) hQ
    simp only [gI_sI, gL_sL, gQ_sQ, gI_sJ, gI_sL, gI_sQ, gL_sI, gL_sQ, gL_sJ, gQ_sI, gQ_sL, gQ_sJ, gN_sI, gN_sL, gN_sQ, gN_sJ, Nat.reduceLT, Nat.reduceEqDiff, reduceIte, Nat.reduceAdd, Nat.reduceLeDiff, Nat.reduceSub, Bool.false_eq_true, if_true, if_false, ite_true, ite_false, List.length_cons, List.length_nil, Nat.zero_add, Nat.add_zero, and_true, true_and, true_or, or_true, and_self, Nat.le_refl, Nat.lt_irrefl]
    by_cases e : j = i
    · rw [e, if_pos rfl]
    · rw [if_neg (cK_ne h.kd (by omega) hk e)]
      exact hR j (by omega)
