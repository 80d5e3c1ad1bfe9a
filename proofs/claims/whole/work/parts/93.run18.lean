/-! ===== the run: the class: a frame begins ===== -/
theorem vi_3 {σ : HS} {i : Nat} (h : i < gN σ 3) : am_vi S1 σ (some (3, i)) = True := eq_true ⟨Or.inl (show 3 < 13 by decide), h⟩
theorem v_ca2.cg {P R : Nat → Bool} {x m x' m' : HS} (h : v_ca2 x m) (f : frx P x x') (g : frm R m m') (hp : (P 1116 || (P 1117 || false)) = false) (hr : (R 39 || (R 48 || (R 47 || (R 1342 || false)))) = false) : v_ca2 x' m' := by
  simp only [Bool.or_eq_false_iff] at hp hr
  intro i hi
  rw [f.gn] at hi
  exact (h i hi).to (f.gi hp.1) (f.gi hp.2.1) (g.gi hr.1) (g.gi hr.2.1) (g.gi hr.2.2.1) (g.gi hr.2.2.2.1)
theorem bsN_s (m : HS) (i : Nat) : bsN m (i + 1) = if ¬ gI m 72 i = 0 ∧ gI m 34 (gI m 37 i).toNatClampNeg < 256 then (match bsN m i with | none => some i | some b => if kI (gI m 38 i) < kI (gI m 38 b) then some i else some b) else bsN m i := rfl
theorem bsN_n {m : HS} : ∀ {n : Nat}, (∀ i, i < n → gI m 72 i = 0) → bsN m n = none
  | 0, _ => rfl
  | n + 1, h => by rw [bsN_s, if_neg (fun z => z.1 (h n (by omega))), bsN_n (fun i hi => h i (by omega))]
/-- the best one waits, and its node is not OFF -/
theorem bsN_w {m : HS} : ∀ {n b : Nat}, bsN m n = some b → ¬ gI m 72 b = 0 ∧ gI m 34 (gI m 37 b).toNatClampNeg < 256
  | 0, b, h => by cases h
  | n + 1, b, h => by
    rw [bsN_s] at h
    by_cases q : ¬ gI m 72 n = 0 ∧ gI m 34 (gI m 37 n).toNatClampNeg < 256
    · rw [if_pos q] at h
      cases e : bsN m n with
      | none =>
        rw [e] at h
        cases h
        exact q
      | some c =>
        rw [e] at h
        dsimp only at h
        by_cases q2 : kI (gI m 38 n) < kI (gI m 38 c)
        · rw [if_pos q2] at h
          cases h
          exact q
        · rw [if_neg q2] at h
          cases h
          exact bsN_w e
    · rw [if_neg q] at h
      exact bsN_w h
def oW (b : Option Nat) : AV := .inr (.inr (b.map (fun w => (10, w))))
theorem l_first {x m : HS} (hc : v_cnt x m) (hw : v_wrd x m) (hr : v_rnk x m) (ha : v_wai x m) (hh : v_hom x m) (h6 : v_w6 x m) {Q : PO} (hQ : Q (some (oW (bsN m (gN x 10)))) x) :
    ∀ (r i : Nat) (v : Option AV), i + r = gN x 10 → am_T (kX9_firstThatWaits S1) MM Q 4 [some rW, some (oW (bsN m i)), some (.inl (nI i)), v] [] x 0 0 := by
  intro r
  have h24 := hc.2.1
  have c0 := hc.2.2.2.2.1
  induction r with
  | zero =>
    intro i v hi
    have e : i = gN x 10 := by omega
    have h0 : ¬ nI i < nI (gN x 10) := nI_nlt (by omega) (by omega)
    rw [hX9_firstThatWaits 6]
    rw [e]
    rw [e] at h0
    unfold oW at hQ ⊢
    cases eb : bsN m (gN x 10) with
    | none =>
      rw [eb] at hQ
      simp only [am_run_s, bt, lf, am_in, am_ar, am_fit, am_ld, am_ct, Nat.reduceLT, Nat.reduceEqDiff, reduceIte, Nat.reduceAdd, Nat.reduceLeDiff, Nat.reduceSub, Bool.false_eq_true, if_true, if_false, ite_true, ite_false, List.length_cons, List.length_nil, Nat.zero_add, Nat.add_zero, and_true, true_and, true_or, or_true, and_self, Nat.le_refl, Nat.lt_irrefl, gI_sI, gL_sL, gQ_sQ, gI_sJ, gI_sL, gI_sQ, gL_sI, gL_sQ, gL_sJ, gQ_sI, gQ_sL, gQ_sJ, gN_sI, gN_sL, gN_sQ, gN_sJ, E_aald_0, E_cV_a, E_cV_b, E_c_0, E_getI_0, E_getR_0, E_inc_a, E_inc_b, E_jl_0, E_jmp_0, E_jnull_0, E_jnull_1, E_jz_0, E_kk, E_ldI_a, E_ldI_b, E_ldR_a, E_ldR_b, E_rR_0, E_stI_0, E_stR_0, aL_91, am_cc, am_nl, am_ok, am_pop, am_rt, am_set, cC_10, cC_6, cC_9, cC_91, rQ_91, rR_1000, rR_701, sN_91, kX9_firstThatWaits, c0, h0, Option.map_none]
      exact hQ
    | some b =>
      rw [eb] at hQ
      have hb := bsN_lt m eb
      simp only [am_run_s, bt, lf, am_in, am_ar, am_fit, am_ld, am_ct, Nat.reduceLT, Nat.reduceEqDiff, reduceIte, Nat.reduceAdd, Nat.reduceLeDiff, Nat.reduceSub, Bool.false_eq_true, if_true, if_false, ite_true, ite_false, List.length_cons, List.length_nil, Nat.zero_add, Nat.add_zero, and_true, true_and, true_or, or_true, and_self, Nat.le_refl, Nat.lt_irrefl, gI_sI, gL_sL, gQ_sQ, gI_sJ, gI_sL, gI_sQ, gL_sI, gL_sQ, gL_sJ, gQ_sI, gQ_sL, gQ_sJ, gN_sI, gN_sL, gN_sQ, gN_sJ, E_aald_0, E_cV_a, E_cV_b, E_c_0, E_getI_0, E_getR_0, E_inc_a, E_inc_b, E_jl_0, E_jmp_0, E_jnull_0, E_jnull_1, E_jz_0, E_kk, E_ldI_a, E_ldI_b, E_ldR_a, E_ldR_b, E_rR_0, E_stI_0, E_stR_0, aL_91, am_cc, am_nl, am_ok, am_pop, am_rt, am_set, cC_10, cC_6, cC_9, cC_91, rQ_91, rR_1000, rR_701, sN_91, kX9_firstThatWaits, c0, h0, Option.map_some, hb]
      exact hQ
  | succ r ih =>
    intro i v hi
    have hlt : i < gN x 10 := by omega
    have h2 := nI_t hlt (by omega)
    have h3 : vp_in (nI i) 24 := vp_in_nI (by omega) (by omega)
    have h4 : (nI i).toNatClampNeg = i := nI_clamp (by omega)
    have hq := (hw i hlt).1
    obtain ⟨a1, a2, a3⟩ := ha.1 i hlt
    obtain ⟨h, y1, y2, y3⟩ := hh i hlt
    have h10 := hc.1
    have h5 : (nI h).toNatClampNeg = h := nI_clamp (by omega)
    have key : ∀ j, j < gN x 10 → kX (gI x 1102 j) = kI (gI m 38 j) := by
      intro j hj
      obtain ⟨z1, r, z2, z3⟩ := hr.1 j hj
      rw [z1, z2, kI_kX r z3]
    have go := fun v => ih (i + 1) v (by omega)
    rw [bsN_s, y3, h5] at go
    by_cases q : gI m 72 i = 0
    · rw [if_neg (fun z => z.1 q)] at go
      rw [hX9_firstThatWaits 16]
      have c1 : gI x 1110 i = 0 := a1.trans q
      unfold oW at go ⊢
      simp only [am_run_s, bt, lf, am_in, am_ar, am_fit, am_ld, am_ct, Nat.reduceLT, Nat.reduceEqDiff, reduceIte, Nat.reduceAdd, Nat.reduceLeDiff, Nat.reduceSub, Bool.false_eq_true, if_true, if_false, ite_true, ite_false, List.length_cons, List.length_nil, Nat.zero_add, Nat.add_zero, and_true, true_and, true_or, or_true, and_self, Nat.le_refl, Nat.lt_irrefl, gI_sI, gL_sL, gQ_sQ, gI_sJ, gI_sL, gI_sQ, gL_sI, gL_sQ, gL_sJ, gQ_sI, gQ_sL, gQ_sJ, gN_sI, gN_sL, gN_sQ, gN_sJ, E_aald_0, E_cV_a, E_cV_b, E_c_0, E_getI_0, E_getR_0, E_inc_a, E_inc_b, E_jl_0, E_jmp_0, E_jnull_0, E_jnull_1, E_jz_0, E_kk, E_ldI_a, E_ldI_b, E_ldR_a, E_ldR_b, E_rR_0, E_stI_0, E_stR_0, aL_91, am_cc, am_nl, am_ok, am_pop, am_rt, am_set, cC_10, cC_6, cC_9, cC_91, rQ_91, rR_1000, rR_701, sN_91, kX9_firstThatWaits, c0, h2, h3, h4, hq, hlt, c1, nI_1]
      exact go _
    · have hon : gI m 34 h < 256 := Decidable.not_not.mp (fun z => q (h6 i hlt h y3 (by omega) z))
      have c1 : ¬ gI x 1110 i = 0 := by rw [a1]; exact q
      rw [if_pos ⟨q, hon⟩] at go
      unfold oW at go ⊢
      cases eb : bsN m i with
      | none =>
        rw [eb] at go
        simp only [Option.map_some] at go
        rw [hX9_firstThatWaits 20]
        simp only [am_run_s, bt, lf, am_in, am_ar, am_fit, am_ld, am_ct, Nat.reduceLT, Nat.reduceEqDiff, reduceIte, Nat.reduceAdd, Nat.reduceLeDiff, Nat.reduceSub, Bool.false_eq_true, if_true, if_false, ite_true, ite_false, List.length_cons, List.length_nil, Nat.zero_add, Nat.add_zero, and_true, true_and, true_or, or_true, and_self, Nat.le_refl, Nat.lt_irrefl, gI_sI, gL_sL, gQ_sQ, gI_sJ, gI_sL, gI_sQ, gL_sI, gL_sQ, gL_sJ, gQ_sI, gQ_sL, gQ_sJ, gN_sI, gN_sL, gN_sQ, gN_sJ, E_aald_0, E_cV_a, E_cV_b, E_c_0, E_getI_0, E_getR_0, E_inc_a, E_inc_b, E_jl_0, E_jmp_0, E_jnull_0, E_jnull_1, E_jz_0, E_kk, E_ldI_a, E_ldI_b, E_ldR_a, E_ldR_b, E_rR_0, E_stI_0, E_stR_0, aL_91, am_cc, am_nl, am_ok, am_pop, am_rt, am_set, cC_10, cC_6, cC_9, cC_91, rQ_91, rR_1000, rR_701, sN_91, kX9_firstThatWaits, c0, h2, h3, h4, hq, hlt, c1, Option.map_none, nI_1]
        exact go _
      | some b =>
        have hb := bsN_lt m eb
        have hb2 : b < gN x 10 := by omega
        rw [eb] at go
        dsimp only at go
        by_cases q3 : kI (gI m 38 i) < kI (gI m 38 b)
        · rw [if_pos q3] at go
          simp only [Option.map_some] at go
          rw [hX9_firstThatWaits 24]
          simp only [am_run_s, bt, lf, am_in, am_ar, am_fit, am_ld, am_ct, Nat.reduceLT, Nat.reduceEqDiff, reduceIte, Nat.reduceAdd, Nat.reduceLeDiff, Nat.reduceSub, Bool.false_eq_true, if_true, if_false, ite_true, ite_false, List.length_cons, List.length_nil, Nat.zero_add, Nat.add_zero, and_true, true_and, true_or, or_true, and_self, Nat.le_refl, Nat.lt_irrefl, gI_sI, gL_sL, gQ_sQ, gI_sJ, gI_sL, gI_sQ, gL_sI, gL_sQ, gL_sJ, gQ_sI, gQ_sL, gQ_sJ, gN_sI, gN_sL, gN_sQ, gN_sJ, E_aald_0, E_cV_a, E_cV_b, E_c_0, E_getI_0, E_getR_0, E_inc_a, E_inc_b, E_jl_0, E_jmp_0, E_jnull_0, E_jnull_1, E_jz_0, E_kk, E_ldI_a, E_ldI_b, E_ldR_a, E_ldR_b, E_rR_0, E_stI_0, E_stR_0, aL_91, am_cc, am_nl, am_ok, am_pop, am_rt, am_set, cC_10, cC_6, cC_9, cC_91, rQ_91, rR_1000, rR_701, sN_91, kX9_firstThatWaits, c0, h2, h3, h4, hq, hlt, hb2, c1, Option.map_some, ↓s_goesAhead i b x _ hlt hb2, bI_z, key i hlt, key b hb2, q3, not_true_eq_false, not_false_eq_true, nI_1]
          exact go _
        · rw [if_neg q3] at go
          simp only [Option.map_some] at go
          rw [hX9_firstThatWaits 22]
          simp only [am_run_s, bt, lf, am_in, am_ar, am_fit, am_ld, am_ct, Nat.reduceLT, Nat.reduceEqDiff, reduceIte, Nat.reduceAdd, Nat.reduceLeDiff, Nat.reduceSub, Bool.false_eq_true, if_true, if_false, ite_true, ite_false, List.length_cons, List.length_nil, Nat.zero_add, Nat.add_zero, and_true, true_and, true_or, or_true, and_self, Nat.le_refl, Nat.lt_irrefl, gI_sI, gL_sL, gQ_sQ, gI_sJ, gI_sL, gI_sQ, gL_sI, gL_sQ, gL_sJ, gQ_sI, gQ_sL, gQ_sJ, gN_sI, gN_sL, gN_sQ, gN_sJ, E_aald_0, E_cV_a, E_cV_b, E_c_0, E_getI_0, E_getR_0, E_inc_a, E_inc_b, E_jl_0, E_jmp_0, E_jnull_0, E_jnull_1, E_jz_0, E_kk, E_ldI_a, E_ldI_b, E_ldR_a, E_ldR_b, E_rR_0, E_stI_0, E_stR_0, aL_91, am_cc, am_nl, am_ok, am_pop, am_rt, am_set, cC_10, cC_6, cC_9, cC_91, rQ_91, rR_1000, rR_701, sN_91, kX9_firstThatWaits, c0, h2, h3, h4, hq, hlt, hb2, c1, Option.map_some, ↓s_goesAhead i b x _ hlt hb2, bI_z, key i hlt, key b hb2, q3, not_true_eq_false, not_false_eq_true, nI_1]
          exact go _
theorem c_first {x m : HS} (hc : v_cnt x m) (hw : v_wrd x m) (hr : v_rnk x m) (ha : v_wai x m) (hh : v_hom x m) (h6 : v_w6 x m) {Q : PO} (hQ : Q (some (oW (bsN m (gN x 10)))) x) : MM 70 [rW] x Q := by
  rw [eX9_firstThatWaits 4]
  simp only [am_run_s, bt, lf, am_in, am_ar, am_fit, am_ld, am_ct, Nat.reduceLT, Nat.reduceEqDiff, reduceIte, Nat.reduceAdd, Nat.reduceLeDiff, Nat.reduceSub, Bool.false_eq_true, if_true, if_false, ite_true, ite_false, List.length_cons, List.length_nil, Nat.zero_add, Nat.add_zero, and_true, true_and, true_or, or_true, and_self, Nat.le_refl, Nat.lt_irrefl, gI_sI, gL_sL, gQ_sQ, gI_sJ, gI_sL, gI_sQ, gL_sI, gL_sQ, gL_sJ, gQ_sI, gQ_sL, gQ_sJ, gN_sI, gN_sL, gN_sQ, gN_sJ, E_aald_0, E_cV_a, E_cV_b, E_c_0, E_getI_0, E_getR_0, E_inc_a, E_inc_b, E_jl_0, E_jmp_0, E_jnull_0, E_jnull_1, E_jz_0, E_kk, E_ldI_a, E_ldI_b, E_ldR_a, E_ldR_b, E_rR_0, E_stI_0, E_stR_0, aL_91, am_cc, am_nl, am_ok, am_pop, am_rt, am_set, cC_10, cC_6, cC_9, cC_91, rQ_91, rR_1000, rR_701, sN_91, kX9_firstThatWaits]
  exact l_first hc hw hr ha hh h6 hQ (gN x 10) 0 _ (by omega)
def spW (σ : HS) (w : Nat) : HS := sI (if gI σ 1110 w = 0 then σ else sI σ 1013 0 (gI σ 1013 0 - 1)) 1110 w 0
theorem s_stopW (w : Nat) (σ : HS) (Q : PO) (h : w < gN σ 10) : MM 68 [rW, rO w] σ Q ↔ Q none (spW σ w) := by
  unfold spW
  rw [eX9_stopWaiting 13]
  by_cases q : gI σ 1110 w = 0
  · rw [if_pos q]
    simp only [am_run_s, bt, lf, am_in, am_ar, am_fit, am_ld, am_ct, Nat.reduceLT, Nat.reduceEqDiff, reduceIte, Nat.reduceAdd, Nat.reduceLeDiff, Nat.reduceSub, Bool.false_eq_true, if_true, if_false, ite_true, ite_false, List.length_cons, List.length_nil, Nat.zero_add, Nat.add_zero, and_true, true_and, true_or, or_true, and_self, Nat.le_refl, Nat.lt_irrefl, gI_sI, gL_sL, gQ_sQ, gI_sJ, gI_sL, gI_sQ, gL_sI, gL_sQ, gL_sJ, gQ_sI, gQ_sL, gQ_sJ, gN_sI, gN_sL, gN_sQ, gN_sJ, E_b2_0, E_c_0, E_dup_0, E_dup_1, E_getI_0, E_jz_0, E_ldR_a, E_ldR_b, E_putI_0, E_putZ_0, E_rV_0, cC_10, cC_9, kX9_stopWaiting, h, q, am_b0]
  · rw [if_neg q]
    simp only [am_run_s, bt, lf, am_in, am_ar, am_fit, am_ld, am_ct, Nat.reduceLT, Nat.reduceEqDiff, reduceIte, Nat.reduceAdd, Nat.reduceLeDiff, Nat.reduceSub, Bool.false_eq_true, if_true, if_false, ite_true, ite_false, List.length_cons, List.length_nil, Nat.zero_add, Nat.add_zero, and_true, true_and, true_or, or_true, and_self, Nat.le_refl, Nat.lt_irrefl, gI_sI, gL_sL, gQ_sQ, gI_sJ, gI_sL, gI_sQ, gL_sI, gL_sQ, gL_sJ, gQ_sI, gQ_sL, gQ_sJ, gN_sI, gN_sL, gN_sQ, gN_sJ, E_b2_0, E_c_0, E_dup_0, E_dup_1, E_getI_0, E_jz_0, E_ldR_a, E_ldR_b, E_putI_0, E_putZ_0, E_rV_0, cC_10, cC_9, kX9_stopWaiting, h, q, am_b0]
theorem alN_1 (c : Nat → Int32) (h : Nat) : ∀ n, (∀ i, i < n → i = h ∨ ¬ c i < 256) → alN c h n = 1
  | 0, _ => rfl
  | n + 1, y => by rw [alN_s, if_pos ⟨alN_1 c h n (fun i hi => y i (by omega)), y n (by omega)⟩]
theorem alN_0 (c : Nat → Int32) (h : Nat) {i : Nat} (h1 : ¬ i = h) (h2 : c i < 256) : ∀ n, i < n → alN c h n = 0
  | 0, y => absurd y (by omega)
  | n + 1, y => by
    rw [alN_s]
    by_cases e : i = n
    · subst e
      exact if_neg (fun z => z.2.elim h1 (fun z => z h2))
    · have := alN_0 c h h1 h2 n (by omega)
      exact if_neg (fun z => absurd (this.symm.trans z.1) (by decide))
theorem l_alone {x : HS} {c : Nat → Int32} {n h : Nat} (hn : gN x 3 = n) (h10 : n ≤ 10) (hc : gI x 702 0 = nI n) (hq : ∀ i, i < n → gQ x 90 i = some (3, i)) (hk : ∀ i, i < n → gI x 401 i = c i) (hh : h < n) {Q : PO} (hQ : Q (some (.inl (alN c h n))) x) :
    ∀ (r i : Nat), i + r = n → (∀ j, j < i → j = h ∨ ¬ c j < 256) → am_T (kX9_isAlone S1) MM Q 2 [some rW, some (.inr (.inr (some (3, h)))), some (.inl (nI i))] [] x 0 0 := by
  intro r
  induction r with
  | zero =>
    intro i hi hb
    have e : i = n := by omega
    subst e
    have h0 : ¬ nI i < nI i := nI_nlt (by omega) (by omega)
    rw [alN_1 c h i hb] at hQ
    rw [hX9_isAlone 6]
    simp only [am_run_s, bt, lf, am_in, am_ar, am_fit, am_ld, am_ct, Nat.reduceLT, Nat.reduceEqDiff, reduceIte, Nat.reduceAdd, Nat.reduceLeDiff, Nat.reduceSub, Bool.false_eq_true, if_true, if_false, ite_true, ite_false, List.length_cons, List.length_nil, Nat.zero_add, Nat.add_zero, and_true, true_and, true_or, or_true, and_self, Nat.le_refl, Nat.lt_irrefl, gI_sI, gL_sL, gQ_sQ, gI_sJ, gI_sL, gI_sQ, gL_sI, gL_sQ, gL_sJ, gQ_sI, gQ_sL, gQ_sJ, gN_sI, gN_sL, gN_sQ, gN_sJ, E_aald_0, E_cV_a, E_cV_b, E_c_0, E_getI_0, E_getR_0, E_inc_a, E_inc_b, E_jl_0, E_jmp_0, E_jsame_0, E_jz_0, E_kk, E_ldI_a, E_ldI_b, E_ldR_a, E_ldR_b, E_rZ_0, E_stI_0, aL_90, am_cc, am_nl, am_ok, am_pop, am_rt, am_set, cC_3, cC_6, cC_9, cC_90, rQ_90, rR_1000, rR_700, sN_90, kX9_isAlone, hc, h0, am_b1]
    exact hQ
  | succ r ih =>
    intro i hi hb
    have hlt : i < n := by omega
    have h2 := nI_t hlt (by omega)
    have h3 : vp_in (nI i) 10 := vp_in_nI (by omega) (by omega)
    have h4 : (nI i).toNatClampNeg = i := nI_clamp (by omega)
    have h5 := hq i hlt
    have h6 : i < gN x 3 := by rw [hn]; exact hlt
    have h7 : h < gN x 3 := by rw [hn]; exact hh
    by_cases e : i = h
    · have e' : ((some (3, i) : Option (Nat × Nat)) = some (3, h)) = True := eq_true (by rw [e])
      rw [hX9_isAlone 14]
      simp only [am_run_s, bt, lf, am_in, am_ar, am_fit, am_ld, am_ct, Nat.reduceLT, Nat.reduceEqDiff, reduceIte, Nat.reduceAdd, Nat.reduceLeDiff, Nat.reduceSub, Bool.false_eq_true, if_true, if_false, ite_true, ite_false, List.length_cons, List.length_nil, Nat.zero_add, Nat.add_zero, and_true, true_and, true_or, or_true, and_self, Nat.le_refl, Nat.lt_irrefl, gI_sI, gL_sL, gQ_sQ, gI_sJ, gI_sL, gI_sQ, gL_sI, gL_sQ, gL_sJ, gQ_sI, gQ_sL, gQ_sJ, gN_sI, gN_sL, gN_sQ, gN_sJ, E_aald_0, E_cV_a, E_cV_b, E_c_0, E_getI_0, E_getR_0, E_inc_a, E_inc_b, E_jl_0, E_jmp_0, E_jsame_0, E_jz_0, E_kk, E_ldI_a, E_ldI_b, E_ldR_a, E_ldR_b, E_rZ_0, E_stI_0, aL_90, am_cc, am_nl, am_ok, am_pop, am_rt, am_set, cC_3, cC_6, cC_9, cC_90, rQ_90, rR_1000, rR_700, sN_90, kX9_isAlone, hc, h2, h3, h4, h5, vi_3 h6, vi_3 h7, e', nI_1]
      exact ih (i + 1) (by omega) (fun j hj => by
        by_cases z : j = i
        · exact Or.inl (z.trans e)
        · exact hb j (by omega))
    · have e' : ((some (3, i) : Option (Nat × Nat)) = some (3, h)) = False := eq_false (fun z => e (by injection z with z; injection z))
      by_cases q : c i < 256
      · rw [alN_0 c h e q n hlt] at hQ
        rw [hX9_isAlone 20]
        simp only [am_run_s, bt, lf, am_in, am_ar, am_fit, am_ld, am_ct, Nat.reduceLT, Nat.reduceEqDiff, reduceIte, Nat.reduceAdd, Nat.reduceLeDiff, Nat.reduceSub, Bool.false_eq_true, if_true, if_false, ite_true, ite_false, List.length_cons, List.length_nil, Nat.zero_add, Nat.add_zero, and_true, true_and, true_or, or_true, and_self, Nat.le_refl, Nat.lt_irrefl, gI_sI, gL_sL, gQ_sQ, gI_sJ, gI_sL, gI_sQ, gL_sI, gL_sQ, gL_sJ, gQ_sI, gQ_sL, gQ_sJ, gN_sI, gN_sL, gN_sQ, gN_sJ, E_aald_0, E_cV_a, E_cV_b, E_c_0, E_getI_0, E_getR_0, E_inc_a, E_inc_b, E_jl_0, E_jmp_0, E_jsame_0, E_jz_0, E_kk, E_ldI_a, E_ldI_b, E_ldR_a, E_ldR_b, E_rZ_0, E_stI_0, aL_90, am_cc, am_nl, am_ok, am_pop, am_rt, am_set, cC_3, cC_6, cC_9, cC_90, rQ_90, rR_1000, rR_700, sN_90, kX9_isAlone, hc, h2, h3, h4, h5, vi_3 h6, vi_3 h7, e', h6, ↓s_nodeIsOff i x _ h6, bI_z, hk i hlt, q, not_true_eq_false, not_false_eq_true, am_b0]
        exact hQ
      · rw [hX9_isAlone 21]
        simp only [am_run_s, bt, lf, am_in, am_ar, am_fit, am_ld, am_ct, Nat.reduceLT, Nat.reduceEqDiff, reduceIte, Nat.reduceAdd, Nat.reduceLeDiff, Nat.reduceSub, Bool.false_eq_true, if_true, if_false, ite_true, ite_false, List.length_cons, List.length_nil, Nat.zero_add, Nat.add_zero, and_true, true_and, true_or, or_true, and_self, Nat.le_refl, Nat.lt_irrefl, gI_sI, gL_sL, gQ_sQ, gI_sJ, gI_sL, gI_sQ, gL_sI, gL_sQ, gL_sJ, gQ_sI, gQ_sL, gQ_sJ, gN_sI, gN_sL, gN_sQ, gN_sJ, E_aald_0, E_cV_a, E_cV_b, E_c_0, E_getI_0, E_getR_0, E_inc_a, E_inc_b, E_jl_0, E_jmp_0, E_jsame_0, E_jz_0, E_kk, E_ldI_a, E_ldI_b, E_ldR_a, E_ldR_b, E_rZ_0, E_stI_0, aL_90, am_cc, am_nl, am_ok, am_pop, am_rt, am_set, cC_3, cC_6, cC_9, cC_90, rQ_90, rR_1000, rR_700, sN_90, kX9_isAlone, hc, h2, h3, h4, h5, vi_3 h6, vi_3 h7, e', h6, ↓s_nodeIsOff i x _ h6, bI_z, hk i hlt, q, not_true_eq_false, not_false_eq_true, nI_1]
        exact ih (i + 1) (by omega) (fun j hj => by
          by_cases z : j = i
          · rw [z]; exact Or.inr q
          · exact hb j (by omega))
theorem c_alone {x : HS} {c : Nat → Int32} {n h : Nat} (hn : gN x 3 = n) (h10 : n ≤ 10) (hc : gI x 702 0 = nI n) (hq : ∀ i, i < n → gQ x 90 i = some (3, i)) (hk : ∀ i, i < n → gI x 401 i = c i) (hh : h < n) {Q : PO} (hQ : Q (some (.inl (alN c h n))) x) : MM 71 [rW, .inr (.inr (some (3, h)))] x Q := by
  rw [eX9_isAlone 2]
  simp only [am_run_s, bt, lf, am_in, am_ar, am_fit, am_ld, am_ct, Nat.reduceLT, Nat.reduceEqDiff, reduceIte, Nat.reduceAdd, Nat.reduceLeDiff, Nat.reduceSub, Bool.false_eq_true, if_true, if_false, ite_true, ite_false, List.length_cons, List.length_nil, Nat.zero_add, Nat.add_zero, and_true, true_and, true_or, or_true, and_self, Nat.le_refl, Nat.lt_irrefl, gI_sI, gL_sL, gQ_sQ, gI_sJ, gI_sL, gI_sQ, gL_sI, gL_sQ, gL_sJ, gQ_sI, gQ_sL, gQ_sJ, gN_sI, gN_sL, gN_sQ, gN_sJ, E_aald_0, E_cV_a, E_cV_b, E_c_0, E_getI_0, E_getR_0, E_inc_a, E_inc_b, E_jl_0, E_jmp_0, E_jsame_0, E_jz_0, E_kk, E_ldI_a, E_ldI_b, E_ldR_a, E_ldR_b, E_rZ_0, E_stI_0, aL_90, am_cc, am_nl, am_ok, am_pop, am_rt, am_set, cC_3, cC_6, cC_9, cC_90, rQ_90, rR_1000, rR_700, sN_90, kX9_isAlone]
  exact l_alone hn h10 hc hq hk hh hQ n 0 (by omega) (fun j hj => absurd hj (by omega))
